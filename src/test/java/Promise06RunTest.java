import java.util.NoSuchElementException;

public final class Promise06RunTest {
    private static final Class<IndexOutOfBoundsException> CUT_OFF = IndexOutOfBoundsException.class;
    private static final Class<IllegalArgumentException> ILL_MADE = IllegalArgumentException.class;
    private static final Class<ArithmeticException> OUT_OF_LIMITS = ArithmeticException.class;
    private static final Class<UnsupportedOperationException> FALLING = UnsupportedOperationException.class;
    private static final Class<IllegalStateException> TOO_MANY = IllegalStateException.class;
    private static final Class<NoSuchElementException> NO_END = NoSuchElementException.class;

    private static final int[] END = {0, 1, 1};

    public static void main(String[] args) {
        instructions();
        passedOver();
        unsignedNumbers();
        signedNumbers();
        addresses();
        lines();
        extendedRefused();
        cutOff();
        falling();
        tooMany();
        noEnd();
        firstFault();
        refusedChangesNothing();
        otherHeaders();
        Checks.finish();
    }

    private static void instructions() {
        rows("nothing", new int[0]);
        rows("END", END, 0, 1, 1, 0, 1, 0, 1);
        rows("1", then(1), 0, 1, 1, 0, 1, 0, 0, 0, 1, 1, 0, 1, 0, 1);
        rows("2", then(2, 129, 1), 129, 1, 1, 0, 1, 0, 1);
        rows("3", then(3, 9, 3, 126), 0, 1, 8, 0, 1, 0, 1);
        rows("4", then(4, 129, 1), 0, 129, 1, 0, 1, 0, 1);
        rows("4, not added", then(4, 5, 4, 0), 0, 0, 1, 0, 1, 0, 1);
        rows("5", then(5, 129, 1), 0, 1, 1, 129, 1, 0, 1);
        rows("5, not added", then(5, 5, 5, 3), 0, 1, 1, 3, 1, 0, 1);
        rows("6", then(6), 0, 1, 1, 0, 0, 0, 1);
        rows("6 twice", then(6, 6), 0, 1, 1, 0, 1, 0, 1);
        rows("7, kept by an END", then(7), 0, 1, 1, 0, 1, 1, 1);
        rows("7 twice", then(7, 7), 0, 1, 1, 0, 1, 1, 1);
        rows("7 and 1", then(7, 1), 0, 1, 1, 0, 1, 1, 0, 0, 1, 1, 0, 1, 0, 1);
        rows("7 and a special one", then(7, 18), 0, 1, 1, 0, 1, 1, 0, 0, 1, 1, 0, 1, 0, 1);
        rows("8", then(8), 17, 1, 1, 0, 1, 0, 1);
        rows("9", then(9, 1, 2), 513, 1, 1, 0, 1, 0, 1);
        rows("9, the greatest", then(9, 255, 255), 65535, 1, 1, 0, 1, 0, 1);
        rows("17", then(17), 0, 1, 0, 0, 1, 0, 0, 0, 1, 0, 0, 1, 0, 1);
        rows("26", then(26), 0, 1, 9, 0, 1, 0, 0, 0, 1, 9, 0, 1, 0, 1);
        rows("32", then(32), 1, 1, 1, 0, 1, 0, 0, 1, 1, 1, 0, 1, 0, 1);
        rows("255", then(255), 17, 1, 0, 0, 1, 0, 0, 17, 1, 0, 0, 1, 0, 1);
        rows("0 with 2", then(2, 9, 0, 5, 2, 1, 2, 3, 4), 0x04030201, 1, 1, 0, 1, 0, 1);
        rows("all anew behind an END", Checks.joined(then(2, 7, 3, 7, 4, 7, 5, 7, 6, 7), END),
                7, 7, 8, 7, 0, 1, 1, 0, 1, 1, 0, 1, 0, 1);
    }

    private static void passedOver() {
        rows("10", then(10, 5), 0, 1, 1, 0, 1, 0, 1);
        rows("11", then(11, 129, 130, 3), 0, 1, 1, 0, 1, 0, 1);
        rows("12", then(12, 0), 0, 1, 1, 0, 1, 0, 1);
        rows("0 with 3, one byte", then(0, 1, 3), 0, 1, 1, 0, 1, 0, 1);
        rows("0 with 3", then(0, 4, 3, 1, 1, 1), 0, 1, 1, 0, 1, 0, 1);
        rows("0 with 255", then(0, 2, 255, 255), 0, 1, 1, 0, 1, 0, 1);
        rows("0 with 128 bytes", then(Checks.joined(Checks.list(0, 128, 1, 4), Checks.repeated(127, 1))),
                0, 1, 1, 0, 1, 0, 1);
    }

    private static void unsignedNumbers() {
        int max = Integer.MAX_VALUE;
        rows("127", then(4, 127), 0, 127, 1, 0, 1, 0, 1);
        rows("128", then(4, 128, 1), 0, 128, 1, 0, 1, 0, 1);
        rows("bit 6 is no sign", then(4, 64), 0, 64, 1, 0, 1, 0, 1);
        rows("each group", then(4, 129, 130, 131, 132, 5),
                0, 1 + (2 << 7) + (3 << 14) + (4 << 21) + (5 << 28), 1, 0, 1, 0, 1);
        rows("2^31 - 1 as file", then(4, 255, 255, 255, 255, 7), 0, max, 1, 0, 1, 0, 1);
        rows("2^31 - 1 as column", then(5, 255, 255, 255, 255, 7), 0, 1, 1, max, 1, 0, 1);
        rows("2^31 - 1 as address", then(2, 255, 255, 255, 255, 7), max, 1, 1, 0, 1, 0, 1);
        rows("2^31 - 1 for nothing", then(10, 255, 255, 255, 255, 7), 0, 1, 1, 0, 1, 0, 1);
        rows("more bytes than it needs", then(4, 129, 128, 128, 128, 0), 0, 1, 1, 0, 1, 0, 1);
        for (int code : Checks.list(0, 2, 4, 5, 10, 12)) {
            refused("2^31 with " + code, ILL_MADE, then(code, 128, 128, 128, 128, 8));
            refused("2^32 with " + code, ILL_MADE, then(code, 128, 128, 128, 128, 16));
            refused("2^34 with " + code, ILL_MADE, then(code, 128, 128, 128, 128, 64));
            refused("a negative one with " + code, ILL_MADE, then(code, 255, 255, 255, 255, 127));
            refused("six bytes with " + code, ILL_MADE, then(code, 129, 128, 128, 128, 128, 0));
            refused("five bytes that go on with " + code, ILL_MADE, code, 128, 128, 128, 128, 128);
        }
    }

    private static void signedNumbers() {
        rows("63", then(3, 63), 0, 1, 64, 0, 1, 0, 1);
        rows("64 is -64", then(3, 228, 0, 3, 64), 0, 1, 37, 0, 1, 0, 1);
        rows("-1", then(3, 127), 0, 1, 0, 0, 1, 0, 1);
        rows("-1 in five bytes", then(3, 255, 255, 255, 255, 127), 0, 1, 0, 0, 1, 0, 1);
        rows("1 in five bytes", then(3, 129, 128, 128, 128, 0), 0, 1, 2, 0, 1, 0, 1);
        rows("-128", then(3, 200, 1, 3, 128, 127), 0, 1, 73, 0, 1, 0, 1);
        rows("two groups without a sign", then(3, 192, 0), 0, 1, 65, 0, 1, 0, 1);
        rows("2^31 - 2", then(3, 254, 255, 255, 255, 7), 0, 1, Integer.MAX_VALUE, 0, 1, 0, 1);
        rows("2^31 - 1", then(3, 127, 3, 255, 255, 255, 255, 7), 0, 1, Integer.MAX_VALUE, 0, 1, 0, 1);
        rows("-(2^31 - 1)", then(3, 127, 3, 255, 255, 255, 255, 7, 3, 129, 128, 128, 128, 120), 0, 1, 0, 0, 1, 0, 1);
        // -2^31 is a number, and it is the line that is wrong with it.
        refused("-2^31", OUT_OF_LIMITS, then(3, 128, 128, 128, 128, 120));
        refused("2^31", ILL_MADE, then(3, 128, 128, 128, 128, 8));
        refused("-2^31 - 1", ILL_MADE, then(3, 255, 255, 255, 255, 119));
        refused("-2^34", ILL_MADE, then(3, 128, 128, 128, 128, 64));
        refused("2^34 - 1", ILL_MADE, then(3, 255, 255, 255, 255, 63));
        refused("six bytes", ILL_MADE, then(3, 129, 128, 128, 128, 128, 0));
        refused("five bytes that go on", ILL_MADE, 3, 255, 255, 255, 255, 255);
    }

    private static void addresses() {
        int[] greatest = {0, 5, 2, 255, 255, 255, 127};
        rows("the greatest by four bytes", then(greatest), Integer.MAX_VALUE, 1, 1, 0, 1, 0, 1);
        rows("lower again without a row", then(0, 5, 2, 9, 0, 0, 0, 0, 5, 2, 8, 0, 0, 0), 8, 1, 1, 0, 1, 0, 1);
        refused("2^31 by four bytes", OUT_OF_LIMITS, then(0, 5, 2, 0, 0, 0, 128));
        refused("2^32 - 1 by four bytes", OUT_OF_LIMITS, then(0, 5, 2, 255, 255, 255, 255));
        refused("2 beyond it", OUT_OF_LIMITS, then(Checks.joined(greatest, Checks.list(2, 1))));
        refused("2 far beyond it", OUT_OF_LIMITS,
                then(Checks.joined(greatest, Checks.list(2, 255, 255, 255, 255, 7))));
        refused("8 beyond it", OUT_OF_LIMITS, then(Checks.joined(greatest, Checks.list(8))));
        refused("9 beyond it", OUT_OF_LIMITS, then(Checks.joined(greatest, Checks.list(9, 1, 0))));
        refused("a special one beyond it", OUT_OF_LIMITS, then(Checks.joined(greatest, Checks.list(32))));
        accepted("2 with 0 at it", 1, then(Checks.joined(greatest, Checks.list(2, 0))));
        accepted("9 with 0 at it", 1, then(Checks.joined(greatest, Checks.list(9, 0, 0))));
        accepted("a special one at it", 2, then(Checks.joined(greatest, Checks.list(18))));
        accepted("8 up to it", 1, then(0, 5, 2, 238, 255, 255, 127, 8));
        refused("8 just beyond it", OUT_OF_LIMITS, then(0, 5, 2, 239, 255, 255, 127, 8));
    }

    private static void lines() {
        int[] greatest = {3, 254, 255, 255, 255, 7};
        accepted("the greatest", 1, then(greatest));
        refused("3 beyond it", OUT_OF_LIMITS, then(Checks.joined(greatest, Checks.list(3, 1))));
        refused("a special one beyond it", OUT_OF_LIMITS, then(Checks.joined(greatest, Checks.list(19))));
        accepted("a special one down from it", 2, then(Checks.joined(greatest, Checks.list(17))));
        refused("3 below 0", OUT_OF_LIMITS, then(3, 126));
        refused("a special one below 0", OUT_OF_LIMITS, then(16));
        refused("below 0 for a moment", OUT_OF_LIMITS, then(3, 126, 3, 9));
    }

    private static void extendedRefused() {
        refused("n is 0", ILL_MADE, 0, 0);
        refused("n is 0, more behind it", ILL_MADE, then(0, 0));
        refused("what is 0", ILL_MADE, 0, 1, 0);
        refused("what is 0, n is 3", ILL_MADE, then(0, 3, 0, 7, 7));
        refused("END of two bytes", ILL_MADE, then(0, 2, 1, 7));
        refused("END of five bytes", ILL_MADE, then(0, 5, 1, 7, 7, 7, 7));
        refused("an address of no bytes", ILL_MADE, then(0, 1, 2));
        refused("an address of three bytes", ILL_MADE, then(0, 4, 2, 0, 0, 0));
        refused("an address of three bytes that takes another one", ILL_MADE, then(0, 4, 2, 0, 0, 0, 7));
        refused("an address of five bytes", ILL_MADE, then(0, 6, 2, 0, 0, 0, 0, 7));
        refused("an address of five bytes, too big", ILL_MADE, then(0, 6, 2, 255, 255, 255, 255, 255));
        accepted("n in more bytes than it needs", 1, 0, 129, 128, 0, 1);
    }

    private static void cutOff() {
        for (int code : Checks.list(0, 2, 3, 4, 5, 9, 10, 11, 12)) {
            refused(code + " alone", CUT_OFF, code);
            refused(code + " alone, behind an END", CUT_OFF, 0, 1, 1, code);
        }
        for (int code : Checks.list(0, 2, 3, 4, 5, 10)) {
            refused(code + " with a number that goes on", CUT_OFF, code, 128);
            refused(code + " with a number that goes on far", CUT_OFF, code, 255, 255, 255, 255);
        }
        refused("9 with one byte", CUT_OFF, 9, 1);
        refused("0 with n and nothing", CUT_OFF, 0, 1);
        refused("an address that is cut off", CUT_OFF, 0, 5, 2, 0, 0, 0);
        refused("one that means nothing, cut off", CUT_OFF, 0, 3, 77, 0);
        refused("the greatest n", CUT_OFF, 0, 255, 255, 255, 255, 7, 1);
        // n is compared before what is looked at.
        refused("an END that is too long and cut off", CUT_OFF, 0, 2, 1);
        refused("an address that is too short and cut off", CUT_OFF, 0, 4, 2, 1, 1);
        refused("what is 0 and it is cut off", CUT_OFF, 0, 2, 0);
    }

    private static void falling() {
        refused("1 below", FALLING, then(2, 9, 1, 0, 5, 2, 8, 0, 0, 0, 1));
        refused("an END below", FALLING, then(2, 9, 1, 0, 5, 2, 8, 0, 0, 0));
        refused("a special one below", FALLING, then(2, 19, 18, 0, 5, 2, 17, 0, 0, 0, 32));
        accepted("the same address", 3, then(2, 9, 1, 0, 5, 2, 9, 0, 0, 0, 1));
        accepted("a special one that comes up to it", 3, then(2, 19, 18, 0, 5, 2, 18, 0, 0, 0, 32));
        accepted("below, behind an END", 4, Checks.joined(then(2, 9, 1), then(2, 3, 1)));
        accepted("an END below, behind an END", 3, Checks.joined(then(2, 9, 1), END));
        refused("below behind two ENDs", FALLING, Checks.joined(END, then(2, 9, 1, 0, 5, 2, 8, 0, 0, 0)));
        refused("below the row before, not the first", FALLING, then(2, 5, 1, 2, 5, 1, 0, 5, 2, 7, 0, 0, 0, 1));
    }

    private static void tooMany() {
        accepted("90 rows", 90, then(Checks.repeated(89, 1)));
        refused("91 rows, the last one LAST", TOO_MANY, then(Checks.repeated(90, 1)));
        refused("91 rows by 1", TOO_MANY, Checks.repeated(91, 1));
        refused("91 rows by special ones", TOO_MANY, Checks.repeated(91, 18));
        accepted("90 rows, all LAST", 90, Checks.repeated(90, END));
        refused("91 rows, all LAST", TOO_MANY, Checks.repeated(91, END));
        refused("90 rows without an END", NO_END, Checks.repeated(90, 1));
        // The document names a falling address before the number of rows.
        refused("the 91st falls, too", FALLING,
                Checks.joined(Checks.list(2, 9), Checks.repeated(90, 1), then(0, 5, 2, 8, 0, 0, 0)));
    }

    private static void noEnd() {
        for (int code : Checks.list(1, 6, 7, 8, 18, 255)) {
            refused(code + " without an END", NO_END, code);
            refused(code + " behind an END", NO_END, 0, 1, 1, code);
        }
        refused("one that means nothing", NO_END, 0, 1, 1, 0, 1, 3);
        refused("one that is read for nothing", NO_END, 0, 1, 1, 10, 5);
        accepted("two ENDs", 2, Checks.joined(END, END));
    }

    private static void firstFault() {
        refused("cut off, then nothing", CUT_OFF, Checks.joined(END, Checks.list(1, 4)));
        refused("ill made before cut off", ILL_MADE, 0, 0, 2);
        refused("out of limits before cut off", OUT_OF_LIMITS, 3, 126, 2);
        refused("out of limits before ill made", OUT_OF_LIMITS, 3, 126, 0, 0);
        refused("falling before ill made", FALLING, 2, 9, 1, 0, 5, 2, 8, 0, 0, 0, 1, 0, 0);
        refused("too many before out of limits", TOO_MANY, Checks.joined(Checks.repeated(91, 1), Checks.list(3, 126)));
        refused("out of limits before falling", OUT_OF_LIMITS, 2, 9, 1, 0, 5, 2, 8, 0, 0, 0, 3, 126, 1);
        // In one instruction: the line is wrong, the address falls.
        refused("line of a special one that falls", OUT_OF_LIMITS, 2, 9, 1, 0, 5, 2, 8, 0, 0, 0, 13);
        refused("line of the 91st row", OUT_OF_LIMITS, Checks.joined(Checks.repeated(90, 1), Checks.list(13)));
        refused("no END is told last", FALLING, 2, 9, 1, 0, 5, 2, 8, 0, 0, 0, 1, 1);
    }

    private static void refusedChangesNothing() {
        LinePrograms x = Checks.program(then(2, 5, 1));
        x.entry(3, 1, 1, 1, 1);
        Checks.equal("run", 2, x.run());
        x.clear();
        int[] bad = {3, 9, 18, 18, 18, 0, 1, 1, 18, 0, 2};
        Checks.putAll(x, bad);
        Checks.refused("run", CUT_OFF, x::run);
        Checks.refused("run again", CUT_OFF, x::run);
        Checks.equal("the program", bad, Checks.bytesOf(x));
        Checks.equal("rows", 2, x.count(1));
        Checks.equal("entries", 1, x.count(2));
        Checks.equal("row 0", Checks.list(5, 1, 1, 0, 1, 0, 0), Checks.rowOf(x, 0));
        Checks.equal("row 1", Checks.list(5, 1, 1, 0, 1, 0, 1), Checks.rowOf(x, 1));
        x.clear();
        Checks.putAll(x, END);
        Checks.equal("a good one behind it", 1, x.run());
        Checks.equal("its row", Checks.list(0, 1, 1, 0, 1, 0, 1), Checks.rowOf(x, 0));
        Checks.equal("the same again", 1, x.run());
        x.clear();
        Checks.equal("nothing", 0, x.run());
        Checks.equal("no rows then", 0, x.count(1));
    }

    private static void otherHeaders() {
        LinePrograms x = Checks.program(10, 1, 1, 0, 1, 1);
        x.header(20, 30, -20, 0);
        Checks.equal("19 and below read a number", 2, x.run());
        x.clear();
        Checks.putAll(x, 19, 30, 20 + 22, 8, 255, 0, 1, 1);
        Checks.equal("run with BASE 20", 3, x.run());
        Checks.equal("42", Checks.list(0, 1, 3, 0, 0, 0, 0), Checks.rowOf(x, 0));
        Checks.equal("8 and 255", Checks.list(14, 1, 8, 0, 0, 0, 0), Checks.rowOf(x, 1));
        x.clear();
        x.header(10, 1, 0, 1);
        Checks.putAll(x, 10, 11, 8, 255, 0, 1, 1);
        Checks.equal("run with BASE 10", 4, x.run());
        Checks.equal("10", Checks.list(0, 1, 1, 0, 1, 0, 0), Checks.rowOf(x, 0));
        Checks.equal("11", Checks.list(1, 1, 1, 0, 1, 0, 0), Checks.rowOf(x, 1));
        Checks.equal("8 and 255, RANGE 1", Checks.list(491, 1, 1, 0, 1, 0, 0), Checks.rowOf(x, 2));
        x.clear();
        x.header(13, 14, -5, 0);
        Checks.putAll(x, 6, 0, 1, 1, 0, 1, 1);
        Checks.equal("run with START 0", 2, x.run());
        Checks.equal("turned", 1, x.row(0, 4));
        Checks.equal("START behind an END", 0, x.row(1, 4));
    }

    /** The bytes, and an END behind them. */
    private static int[] then(int... bytes) {
        return Checks.joined(bytes, END);
    }

    /** The program is run, and these are its rows, seven numbers each. */
    private static void rows(String what, int[] bytes, int... due) {
        LinePrograms x = Checks.program(bytes);
        Checks.equal("run of " + what, due.length / 7, x.run());
        int[] got = new int[0];
        for (int i = 0; i < x.count(1); i++) {
            got = Checks.joined(got, Checks.rowOf(x, i));
        }
        Checks.equal("rows of " + what, due, got);
    }

    private static void accepted(String what, int due, int... bytes) {
        LinePrograms x = Checks.program(bytes);
        Checks.equal("run of " + what, due, x.run());
    }

    private static void refused(String what, Class<? extends RuntimeException> due, int... bytes) {
        LinePrograms x = Checks.program(bytes);
        Checks.refused("run of " + what, due, x::run);
        Checks.equal("rows of " + what, 0, x.count(1));
    }
}
