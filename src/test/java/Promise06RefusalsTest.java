/** The six ways in which a program is refused, which of them is told, and what is looked at first. */
public final class Promise06RefusalsTest {
    private static final int MAX = Runs.MAX;

    public static void main(String[] args) {
        endsInside();
        lengthIsZero();
        whatIsZero();
        lengthOfAnEnd();
        lengthOfAnAddress();
        lengthAgainstWhatIsThere();
        falling();
        behindTheLastEnd();
        bytesAreReadFirst();
        lengthIsComparedFirst();
        lineAndAddressBeforeTheRow();
        severalAtOneRow();
        theFirstFault();
        Checks.finish();
    }

    private static void endsInside() {
        for (int code : Checks.list(0, 2, 3, 4, 5, 9, 10, 11, 12)) {
            Runs.refused(code + " alone", Runs.CUT_OFF, code);
            Runs.refused(code + " alone, behind an END", Runs.CUT_OFF, 0, 1, 1, code);
            Runs.refused(code + " and a byte that goes on", Runs.CUT_OFF, code, 128);
        }
        for (int code : Checks.list(0, 2, 3, 4, 5, 10, 11, 12)) {
            for (int groups = 1; groups <= 4; groups++) {
                Runs.refused(code + " and " + groups + " groups that go on", Runs.CUT_OFF,
                        Checks.joined(Checks.list(code), Checks.repeated(groups, 255)));
            }
        }
        Runs.refused("9 with one byte", Runs.CUT_OFF, 9, 1);
        Runs.refused("9 with both bytes", Runs.NO_END, 9, 1, 1);
        for (int bytes = 0; bytes <= 4; bytes++) {
            Runs.refused("an address with " + bytes + " bytes of five", Runs.CUT_OFF,
                    Checks.joined(Checks.list(0, 5), Checks.repeated(bytes, 2)));
        }
        Runs.refused("an address that is whole", Runs.NO_END, 0, 5, 2, 2, 2, 2, 2);
        Runs.refused("an END with no byte", Runs.CUT_OFF, 0, 1);
        for (int code : Checks.list(1, 6, 7, 8, 18, 255)) {
            Runs.refused(code + " is whole by itself", Runs.NO_END, code);
        }
    }

    private static void lengthIsZero() {
        Runs.refused("n is 0", Runs.ILL_MADE, 0, 0);
        Runs.refused("n is 0, an END behind it", Runs.ILL_MADE, Runs.then(0, 0));
        Runs.refused("n is 0, what could be an END's", Runs.ILL_MADE, 0, 0, 1);
        Runs.refused("n is 0, what could be one that means nothing", Runs.ILL_MADE, Runs.then(0, 0, 3));
    }

    private static void whatIsZero() {
        Runs.refused("what is 0", Runs.ILL_MADE, 0, 1, 0);
        for (int n = 1; n <= 6; n++) {
            Runs.refused("what is 0, n is " + n, Runs.ILL_MADE,
                    Runs.then(Checks.joined(Checks.list(0, n, 0), Checks.repeated(n - 1, 7))));
        }
        Runs.accepted("what is 3", 1, Runs.then(0, 1, 3));
    }

    private static void lengthOfAnEnd() {
        Runs.accepted("an END of one byte", 1, 0, 1, 1);
        for (int n = 2; n <= 8; n++) {
            Runs.refused("an END of " + n + " bytes", Runs.ILL_MADE,
                    Runs.then(Checks.joined(Checks.list(0, n, 1), Checks.repeated(n - 1, 7))));
            Runs.refused("an END of " + n + " bytes, at the end", Runs.ILL_MADE,
                    Checks.joined(Checks.list(0, n, 1), Checks.repeated(n - 1, 7)));
        }
        int[] long257 = Checks.joined(Checks.list(0, 129, 2, 1), Checks.repeated(256, 7));
        Checks.refused("an END of 257 bytes", Runs.ILL_MADE, () -> Checks.program(long257).run());
    }

    private static void lengthOfAnAddress() {
        Runs.accepted("an address of five bytes", 1, Runs.then(0, 5, 2, 0, 0, 0, 0));
        for (int n : Checks.list(1, 2, 3, 4, 6, 7, 8, 9)) {
            Runs.refused("an address of " + n + " bytes", Runs.ILL_MADE,
                    Runs.then(Checks.joined(Checks.list(0, n, 2), Checks.repeated(n - 1, 0))));
            Runs.refused("an address of " + n + " bytes, at the end", Runs.ILL_MADE,
                    Checks.joined(Checks.list(0, n, 2), Checks.repeated(n - 1, 0)));
        }
        Runs.refused("an address of four bytes, another one behind it", Runs.ILL_MADE, Runs.then(0, 4, 2, 0, 0, 0, 7));
        Runs.refused("an address of six bytes, too big", Runs.ILL_MADE, Runs.then(0, 6, 2, 255, 255, 255, 255, 255));
        int[] long261 = Checks.joined(Checks.list(0, 133, 2, 2), Checks.repeated(260, 0));
        Checks.refused("an address of 261 bytes", Runs.ILL_MADE, () -> Checks.program(long261).run());
    }

    // Three bytes are there behind n: what, and two more.
    private static void lengthAgainstWhatIsThere() {
        Runs.refused("n is less", Runs.CUT_OFF, 0, 2, 77, 5, 5);
        Runs.refused("n is just that", Runs.NO_END, 0, 3, 77, 5, 5);
        Runs.refused("n is one more", Runs.CUT_OFF, 0, 4, 77, 5, 5);
        Runs.refused("n is the greatest", Runs.CUT_OFF, 0, 255, 255, 255, 255, 7, 77, 5, 5);
        int[] upToTheEnd = {0, 4, 77, 0, 1, 1};
        Runs.refused("an END inside of it is none", Runs.NO_END, upToTheEnd);
        Runs.accepted("an END behind it is one", 1, Runs.then(0, 4, 77, 0, 1, 1));
        int[] long300 = Checks.repeated(299, 1);
        Checks.refused("300 bytes are there", Runs.NO_END,
                () -> Checks.program(Checks.joined(Checks.list(0, 172, 2, 3), long300)).run());
        Checks.refused("300 bytes, one is missing", Runs.CUT_OFF,
                () -> Checks.program(Checks.joined(Checks.list(0, 173, 2, 3), long300)).run());
    }

    private static void falling() {
        Runs.refused("1 below", Runs.FALLING, Runs.then(Runs.at(9, 1, 0, 5, 2, 8, 0, 0, 0, 1)));
        Runs.accepted("1 at the same address", 3, Runs.then(Runs.at(9, 1, 0, 5, 2, 9, 0, 0, 0, 1)));
        Runs.refused("an END below", Runs.FALLING, Runs.then(Runs.at(9, 1, 0, 5, 2, 8, 0, 0, 0)));
        Runs.accepted("an END at the same address", 2, Runs.then(Runs.at(9, 1, 0, 5, 2, 9, 0, 0, 0)));
        Runs.refused("a special one below", Runs.FALLING, Runs.then(Runs.at(19, 18, 0, 5, 2, 17, 0, 0, 0, 32)));
        Runs.accepted("a special one that comes up to it", 3,
                Runs.then(Runs.at(19, 18, 0, 5, 2, 18, 0, 0, 0, 32)));
        Runs.refused("far below", Runs.FALLING, Runs.then(Runs.at(MAX, 1, 0, 5, 2, 0, 0, 0, 0)));
        Runs.accepted("below for a moment, without a row", 3,
                Runs.then(Runs.at(9, 1, 0, 5, 2, 0, 0, 0, 0, 2, 9, 1)));
        Runs.refused("below the row before, not the first", Runs.FALLING,
                Runs.then(2, 5, 1, 2, 5, 1, 0, 5, 2, 7, 0, 0, 0, 1));
        Runs.accepted("below, behind an END", 4, Checks.joined(Runs.then(2, 9, 1), Runs.then(2, 3, 1)));
        Runs.accepted("an END below, behind an END", 3, Checks.joined(Runs.then(2, 9, 1), Runs.end()));
        Runs.accepted("below an END's address, behind it", 3, Checks.joined(Runs.then(2, 9), Runs.then(2, 8, 1)));
        Runs.refused("below behind an END", Runs.FALLING,
                Checks.joined(Runs.end(), Runs.then(2, 9, 1, 0, 5, 2, 8, 0, 0, 0)));
    }

    private static void behindTheLastEnd() {
        for (int code : Checks.list(1, 6, 7, 8, 18, 255)) {
            Runs.refused(code + " without an END", Runs.NO_END, code);
            Runs.refused(code + " behind an END", Runs.NO_END, 0, 1, 1, code);
            Runs.refused(code + " behind two ENDs", Runs.NO_END, 0, 1, 1, 0, 1, 1, code);
        }
        Runs.refused("2 behind an END", Runs.NO_END, 0, 1, 1, 2, 5);
        Runs.refused("3 behind an END", Runs.NO_END, 0, 1, 1, 3, 5);
        Runs.refused("4 behind an END", Runs.NO_END, 0, 1, 1, 4, 5);
        Runs.refused("5 behind an END", Runs.NO_END, 0, 1, 1, 5, 5);
        Runs.refused("9 behind an END", Runs.NO_END, 0, 1, 1, 9, 5, 5);
        Runs.refused("10 behind an END", Runs.NO_END, 0, 1, 1, 10, 5);
        Runs.refused("12 behind an END", Runs.NO_END, 0, 1, 1, 12, 5);
        Runs.refused("an address behind an END", Runs.NO_END, 0, 1, 1, 0, 5, 2, 0, 0, 0, 0);
        Runs.refused("one that means nothing, behind an END", Runs.NO_END, 0, 1, 1, 0, 1, 3);
        Runs.accepted("an END behind an END", 2, 0, 1, 1, 0, 1, 1);
        Runs.accepted("nothing at all", 0);
    }

    private static void bytesAreReadFirst() {
        Runs.refused("2 that is cut off at the greatest address", Runs.CUT_OFF, Runs.at(MAX, 2, 129));
        Runs.refused("2 that is ill made at the greatest address", Runs.ILL_MADE,
                Runs.at(MAX, 2, 129, 128, 128, 128, 8));
        Runs.refused("9 that is cut off at the greatest address", Runs.CUT_OFF, Runs.at(MAX, 9, 1));
        Runs.refused("3 that is cut off at the greatest line", Runs.CUT_OFF, Runs.onLine(MAX, 3, 129));
        Runs.refused("3 that is ill made at the greatest line", Runs.ILL_MADE,
                Runs.onLine(MAX, 3, 129, 128, 128, 128, 8));
        Runs.refused("an address above the greatest, cut off", Runs.CUT_OFF, 0, 5, 2, 255, 255, 255);
        Runs.refused("the 91st row by an END that is cut off", Runs.CUT_OFF,
                Checks.joined(Checks.repeated(90, 1), Checks.list(0, 1)));
        Runs.refused("an END below that is cut off", Runs.CUT_OFF, Runs.at(9, 1, 0, 5, 2, 8, 0, 0, 0, 0, 1));
    }

    private static void lengthIsComparedFirst() {
        Runs.refused("an END that is too long and cut off", Runs.CUT_OFF, 0, 2, 1);
        Runs.refused("an END of five bytes that is cut off", Runs.CUT_OFF, 0, 5, 1, 7, 7, 7);
        Runs.refused("an address that is too short and cut off", Runs.CUT_OFF, 0, 4, 2, 1, 1);
        Runs.refused("an address that is too long and cut off", Runs.CUT_OFF, 0, 6, 2, 1, 1, 1, 1);
        Runs.refused("what is 0 and it is cut off", Runs.CUT_OFF, 0, 2, 0);
        Runs.refused("an END that is too long for the 91st row", Runs.ILL_MADE,
                Checks.joined(Checks.repeated(90, 1), Checks.list(0, 2, 1, 1)));
        Runs.refused("an END below that is too long", Runs.ILL_MADE, Runs.at(9, 1, 0, 5, 2, 8, 0, 0, 0, 0, 2, 1, 1));
        Runs.refused("n is not a number, and cut off", Runs.ILL_MADE, 0, 128, 128, 128, 128, 8);
    }

    private static void lineAndAddressBeforeTheRow() {
        Runs.refused("the line of a special one that falls", Runs.OUT_OF_LIMITS,
                Runs.at(9, 1, 0, 5, 2, 8, 0, 0, 0, 13));
        Runs.refused("the line of the 91st row", Runs.OUT_OF_LIMITS,
                Checks.joined(Checks.repeated(90, 1), Checks.list(13)));
        Runs.refused("the address of the 91st row", Runs.OUT_OF_LIMITS,
                Checks.joined(Runs.at(MAX), Checks.repeated(90, 1), Checks.list(32)));
        Runs.refused("line and address at once", Runs.OUT_OF_LIMITS, Runs.at(MAX, 27));
    }

    // The document names a falling address before the number of rows.
    private static void severalAtOneRow() {
        int[] ninety = Checks.joined(Checks.list(2, 9), Checks.repeated(90, 1), Checks.list(0, 5, 2, 8, 0, 0, 0));
        Runs.refused("the 91st falls, too, by an END", Runs.FALLING, Runs.then(ninety));
        Runs.refused("the 91st falls, too, by 1", Runs.FALLING, Checks.joined(ninety, Checks.list(1)));
        Runs.refused("the 91st falls, too, by 18", Runs.FALLING, Checks.joined(ninety, Checks.list(18)));
    }

    private static void theFirstFault() {
        Runs.refused("cut off before no END", Runs.CUT_OFF, 0, 1, 1, 1, 4);
        Runs.refused("ill made before cut off", Runs.ILL_MADE, 0, 0, 2);
        Runs.refused("out of limits before cut off", Runs.OUT_OF_LIMITS, 3, 126, 2);
        Runs.refused("out of limits before ill made", Runs.OUT_OF_LIMITS, 3, 126, 0, 0);
        Runs.refused("ill made before out of limits", Runs.ILL_MADE, 0, 0, 3, 126);
        Runs.refused("falling before ill made", Runs.FALLING, Runs.at(9, 1, 0, 5, 2, 8, 0, 0, 0, 1, 0, 0));
        Runs.refused("out of limits before falling", Runs.OUT_OF_LIMITS,
                Runs.at(9, 1, 0, 5, 2, 8, 0, 0, 0, 3, 126, 1));
        Runs.refused("falling before too many", Runs.FALLING,
                Checks.joined(Runs.at(9, 1, 0, 5, 2, 8, 0, 0, 0, 1), Checks.repeated(90, 1)));
        Runs.refused("too many before out of limits", Runs.TOO_MANY,
                Checks.joined(Checks.repeated(91, 1), Checks.list(3, 126)));
        Runs.refused("too many before cut off", Runs.TOO_MANY, Checks.joined(Checks.repeated(91, 1), Checks.list(2)));
        Runs.refused("no END is told last", Runs.FALLING, Runs.at(9, 1, 0, 5, 2, 8, 0, 0, 0, 1, 1));
        Runs.refused("an END before it does not help", Runs.CUT_OFF, Checks.joined(Runs.then(1), Checks.list(5)));
    }
}
