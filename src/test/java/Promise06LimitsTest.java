/** ADDRESS, LINE, the number of rows and the number of bytes: the last value that is taken, the first that isn't. */
public final class Promise06LimitsTest {
    private static final int MAX = Runs.MAX;

    public static void main(String[] args) {
        addressByFourBytes();
        addressByAnUnsignedNumber();
        addressByStep();
        addressByTwoBytes();
        addressByASpecialOne();
        addressBehindAnEnd();
        lineByASignedNumber();
        lineByASpecialOne();
        lineWithOtherHeaders();
        lineBehindAnEnd();
        ninetyRows();
        sixHundredBytes();
        Checks.finish();
    }

    private static void addressByFourBytes() {
        upTo("2^31 - 1 by four bytes", MAX, Runs.at(MAX));
        Runs.refused("2^31 by four bytes", Runs.OUT_OF_LIMITS, Runs.then(Runs.at(MAX + 1L)));
        Runs.refused("2^32 - 1 by four bytes", Runs.OUT_OF_LIMITS, Runs.then(Runs.at(2L * MAX + 1)));
        Runs.refused("2^31 for a moment", Runs.OUT_OF_LIMITS, Runs.then(Runs.at(MAX + 1L, Runs.at(0))));
        Runs.rows("lower again without a row", Runs.then(Runs.at(9, Runs.at(8))), 8, 1, 1, 0, 1, 0, 1);
    }

    private static void addressByAnUnsignedNumber() {
        upTo("2 from 0", MAX, 2, 255, 255, 255, 255, 7);
        upTo("2 up to it", MAX, Runs.at(MAX - 100, 2, 100));
        Runs.refused("2 beyond it", Runs.OUT_OF_LIMITS, Runs.then(Runs.at(MAX - 100, 2, 101)));
        Runs.refused("2 beyond it, from 1", Runs.OUT_OF_LIMITS, Runs.then(Runs.at(1, 2, 255, 255, 255, 255, 7)));
        Runs.refused("2 far beyond it", Runs.OUT_OF_LIMITS, Runs.then(Runs.at(MAX, 2, 255, 255, 255, 255, 7)));
        upTo("2 with 0 at it", MAX, Runs.at(MAX, 2, 0));
        Runs.refused("2 with 1 at it", Runs.OUT_OF_LIMITS, Runs.then(Runs.at(MAX, 2, 1)));
        Runs.refused("2 beyond it for a moment", Runs.OUT_OF_LIMITS,
                Runs.then(Runs.at(MAX, 2, 1, 0, 5, 2, 0, 0, 0, 0)));
    }

    private static void addressByStep() {
        upTo("8 up to it", MAX, Runs.at(MAX - 17, 8));
        Runs.refused("8 beyond it", Runs.OUT_OF_LIMITS, Runs.then(Runs.at(MAX - 16, 8)));
        Runs.refused("8 at it", Runs.OUT_OF_LIMITS, Runs.then(Runs.at(MAX, 8)));
    }

    private static void addressByTwoBytes() {
        upTo("9 up to it", MAX, Runs.at(MAX - 65535, 9, 255, 255));
        Runs.refused("9 beyond it", Runs.OUT_OF_LIMITS, Runs.then(Runs.at(MAX - 65534, 9, 255, 255)));
        upTo("9 with 0 at it", MAX, Runs.at(MAX, 9, 0, 0));
        Runs.refused("9 with 1 at it", Runs.OUT_OF_LIMITS, Runs.then(Runs.at(MAX, 9, 1, 0)));
        Runs.refused("9 with 256 at it", Runs.OUT_OF_LIMITS, Runs.then(Runs.at(MAX, 9, 0, 1)));
    }

    // 255 adds 17 and goes a line back, 32 adds 1, 18 adds nothing.
    private static void addressByASpecialOne() {
        Runs.rows("255 up to it", Runs.then(Runs.at(MAX - 17, 255)),
                MAX, 1, 0, 0, 1, 0, 0, MAX, 1, 0, 0, 1, 0, 1);
        Runs.refused("255 beyond it", Runs.OUT_OF_LIMITS, Runs.then(Runs.at(MAX - 16, 255)));
        Runs.accepted("32 up to it", 2, Runs.then(Runs.at(MAX - 1, 32)));
        Runs.refused("32 at it", Runs.OUT_OF_LIMITS, Runs.then(Runs.at(MAX, 32)));
        Runs.accepted("18 at it", 2, Runs.then(Runs.at(MAX, 18)));
    }

    private static void addressBehindAnEnd() {
        Runs.accepted("up to it twice", 2, Checks.joined(Runs.then(Runs.at(MAX)), Runs.then(2, 255, 255, 255, 255, 7)));
        Runs.refused("beyond it in the second", Runs.OUT_OF_LIMITS,
                Checks.joined(Runs.then(Runs.at(MAX)), Runs.then(2, 255, 255, 255, 255, 7, 2, 1)));
    }

    /** The bytes bring the ADDRESS to this, and it is an END's. */
    private static void upTo(String what, int due, int... bytes) {
        Runs.rows(what, Runs.then(bytes), due, 1, 1, 0, 1, 0, 1);
    }

    private static void lineByASignedNumber() {
        Runs.rows("up to 2^31 - 1", Runs.then(3, 254, 255, 255, 255, 7), 0, 1, MAX, 0, 1, 0, 1);
        Runs.refused("up to 2^31", Runs.OUT_OF_LIMITS, Runs.then(3, 255, 255, 255, 255, 7));
        Runs.refused("1 beyond it", Runs.OUT_OF_LIMITS, Runs.then(Runs.onLine(MAX, 3, 1)));
        Runs.accepted("0 at it", 1, Runs.then(Runs.onLine(MAX, 3, 0)));
        Runs.refused("far beyond it", Runs.OUT_OF_LIMITS, Runs.then(Runs.onLine(MAX, 3, 255, 255, 255, 255, 7)));
        Runs.rows("down to 0", Runs.then(3, 127), 0, 1, 0, 0, 1, 0, 1);
        Runs.rows("down to 0 from afar", Runs.then(Runs.onLine(64, 3, 64)), 0, 1, 0, 0, 1, 0, 1);
        Runs.refused("down to -1", Runs.OUT_OF_LIMITS, Runs.then(3, 126));
        Runs.refused("down to -1 from afar", Runs.OUT_OF_LIMITS, Runs.then(Runs.onLine(63, 3, 64)));
        Runs.refused("down to -2^31 + 1", Runs.OUT_OF_LIMITS, Runs.then(3, 128, 128, 128, 128, 120));
        Runs.refused("below 0 for a moment", Runs.OUT_OF_LIMITS, Runs.then(3, 126, 3, 9));
        Runs.refused("beyond the greatest for a moment", Runs.OUT_OF_LIMITS,
                Runs.then(Runs.onLine(MAX, 3, 1, 3, 100)));
    }

    // 13 goes five lines back, 17 one; 19 goes one on, 26 eight.
    private static void lineByASpecialOne() {
        Runs.accepted("13 down to 0", 2, Runs.then(Runs.onLine(5, 13)));
        Runs.refused("13 down to -1", Runs.OUT_OF_LIMITS, Runs.then(Runs.onLine(4, 13)));
        Runs.accepted("17 down to 0", 2, Runs.then(17));
        Runs.refused("16 down to -1", Runs.OUT_OF_LIMITS, Runs.then(16));
        Runs.refused("17 at 0", Runs.OUT_OF_LIMITS, Runs.then(17, 17));
        Runs.rows("26 up to the greatest", Runs.then(Runs.onLine(MAX - 8, 26)),
                0, 1, MAX, 0, 1, 0, 0, 0, 1, MAX, 0, 1, 0, 1);
        Runs.refused("26 beyond it", Runs.OUT_OF_LIMITS, Runs.then(Runs.onLine(MAX - 7, 26)));
        Runs.refused("19 at it", Runs.OUT_OF_LIMITS, Runs.then(Runs.onLine(MAX, 19)));
        Runs.accepted("18 at it", 2, Runs.then(Runs.onLine(MAX, 18)));
        Runs.accepted("17 at it", 2, Runs.then(Runs.onLine(MAX, 17)));
    }

    private static void lineWithOtherHeaders() {
        withLow(-20, 20, 2);
        withLow(-20, 19, -1);
        withLow(0, 0, 2);
        withLow(-1, 0, -1);
    }

    /** BASE is the byte that brings LOW to the LINE; -1 for a program that is refused. */
    private static void withLow(int low, int line, int due) {
        LinePrograms x = Checks.program(Runs.then(Runs.onLine(line, 20)));
        x.header(20, 30, low, 1);
        if (due < 0) {
            Checks.refused("LOW " + low + " on line " + line, Runs.OUT_OF_LIMITS, x::run);
        } else {
            Checks.equal("LOW " + low + " on line " + line, due, x.run());
            Checks.equal("the line", line + low, x.row(0, 2));
        }
    }

    private static void lineBehindAnEnd() {
        Runs.accepted("one line back twice", 4, Checks.joined(Runs.then(17), Runs.then(17)));
        Runs.accepted("to the greatest twice", 2,
                Checks.joined(Runs.then(Runs.onLine(MAX)), Runs.then(Runs.onLine(MAX))));
    }

    private static void ninetyRows() {
        int[] end = Runs.end();
        Runs.accepted("90 rows by 1 and an END", 90, Runs.then(Checks.repeated(89, 1)));
        Runs.accepted("90 rows by 18 and an END", 90, Runs.then(Checks.repeated(89, 18)));
        Runs.accepted("90 rows by ENDs", 90, Checks.repeated(90, end));
        Runs.accepted("90 rows of several tables", 90, Checks.repeated(10, Runs.then(Checks.repeated(8, 1))));
        Runs.refused("the 91st by an END", Runs.TOO_MANY, Runs.then(Checks.repeated(90, 1)));
        Runs.refused("the 91st by 1", Runs.TOO_MANY, Checks.repeated(91, 1));
        Runs.refused("the 91st by 18", Runs.TOO_MANY, Checks.repeated(91, 18));
        Runs.refused("the 91st by an END behind ENDs", Runs.TOO_MANY, Checks.repeated(91, end));
        Runs.refused("the 91st by 1 behind an END", Runs.TOO_MANY,
                Checks.joined(Runs.then(Checks.repeated(89, 1)), Runs.then(1)));
        Runs.refused("the 91st of several tables", Runs.TOO_MANY,
                Checks.joined(Checks.repeated(10, Runs.then(Checks.repeated(8, 1))), end));
        Runs.refused("90 rows without an END", Runs.NO_END, Checks.repeated(90, 1));
        Runs.accepted("90 rows with what makes none among them", 90,
                Checks.joined(Checks.repeated(89, 1), Runs.then(6, 7, 8, 4, 9, 0, 1, 3)));
        LinePrograms x = Checks.program(Runs.then(Checks.repeated(89, 32)));
        x.run();
        Checks.equal("row 88", Checks.list(89, 1, 1, 0, 1, 0, 0), Checks.rowOf(x, 88));
        Checks.equal("row 89", Checks.list(89, 1, 1, 0, 1, 0, 1), Checks.rowOf(x, 89));
    }

    private static void sixHundredBytes() {
        LinePrograms x = new LinePrograms();
        int last = Tables.giveAlmostTooMuch(x);
        Checks.equal("write", 600, x.write(last + 127));
        Checks.equal("run of 600 bytes", 60, x.run());
        full("ends inside of the 600th byte's instruction", Runs.CUT_OFF, 0, 1);
        full("ends behind the 600th byte, without an END", Runs.NO_END, 7, 7);
        full("ends inside of a number", Runs.CUT_OFF, 2, 128);
        full("the fault is in the last instruction", Runs.ILL_MADE, 0, 0);
        full("the line is wrong in the last instruction", Runs.OUT_OF_LIMITS, 3, 126);
    }

    private static void full(String what, Class<? extends RuntimeException> due, int b598, int b599) {
        Twins.refused("run of 600 bytes, " + what, due, x -> Tables.fillProgram(x, b598, b599), LinePrograms::run);
    }
}
