import java.util.NoSuchElementException;

/** Programs that are put into an object of their own, with the header as it is at first, and run. */
final class Runs {
    static final Class<IndexOutOfBoundsException> CUT_OFF = IndexOutOfBoundsException.class;
    static final Class<IllegalArgumentException> ILL_MADE = IllegalArgumentException.class;
    static final Class<ArithmeticException> OUT_OF_LIMITS = ArithmeticException.class;
    static final Class<UnsupportedOperationException> FALLING = UnsupportedOperationException.class;
    static final Class<IllegalStateException> TOO_MANY = IllegalStateException.class;
    static final Class<NoSuchElementException> NO_END = NoSuchElementException.class;

    static final int MAX = Integer.MAX_VALUE;
    private static final int[] END = {0, 1, 1};

    private Runs() {
    }

    static int[] end() {
        return END.clone();
    }

    /** The bytes, and an END behind them. */
    static int[] then(int... bytes) {
        return Checks.joined(bytes, END);
    }

    /** The instruction that makes the ADDRESS this one, and bytes behind it. */
    static int[] at(long address, int... bytes) {
        int[] set = {0, 5, 2, (int) (address & 255), (int) (address >> 8 & 255), (int) (address >> 16 & 255),
            (int) (address >> 24 & 255)};
        return Checks.joined(set, bytes);
    }

    /** The instruction that brings the LINE from 1 to this one, 0 .. 2^31 - 1, and bytes behind it. */
    static int[] onLine(int line, int... bytes) {
        int l = line - 1;
        int[] add = {3, l & 127 | 128, l >> 7 & 127 | 128, l >> 14 & 127 | 128, l >> 21 & 127 | 128, l >> 28 & 127};
        return Checks.joined(add, bytes);
    }

    /** The program is run, and these are its rows, seven numbers each. */
    static void rows(String what, int[] bytes, int... due) {
        LinePrograms x = Checks.program(bytes);
        Checks.equal("run of " + what, due.length / 7, x.run());
        int[] got = new int[0];
        for (int i = 0; i < x.count(1); i++) {
            got = Checks.joined(got, Checks.rowOf(x, i));
        }
        Checks.equal("rows of " + what, due, got);
    }

    static void accepted(String what, int due, int... bytes) {
        LinePrograms x = Checks.program(bytes);
        Checks.equal("run of " + what, due, x.run());
        Checks.equal("rows of " + what, due, x.count(1));
    }

    /** The program is refused, and the rows of the run before it, the table and the program stay. */
    static void refused(String what, Class<? extends RuntimeException> due, int... bytes) {
        Twins.refused("run of " + what, due, x -> {
            Checks.putAll(x, 2, 5, 4, 3, 1, 2, 1, 0, 1, 1);
            x.run();
            x.clear();
            x.entry(3, 2, 9, 0, 0);
            Checks.putAll(x, bytes);
        }, LinePrograms::run);
    }
}
