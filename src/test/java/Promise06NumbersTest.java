/** The numbers in a program: their groups, their bytes, and their limits. */
public final class Promise06NumbersTest {
    private static final int MAX = Runs.MAX;

    public static void main(String[] args) {
        unsignedGroups();
        unsignedLimit();
        signedGroups();
        signedLimits();
        atMostFiveBytes();
        everyFifthByte();
        lengthOfAnInstruction();
        Checks.finish();
    }

    private static void unsignedGroups() {
        unsigned("0", 0, 0);
        unsigned("127", 127, 127);
        unsigned("bit 6 is no sign", 64, 64);
        unsigned("128", 128, 128, 1);
        unsigned("2^14 - 1", 16383, 255, 127);
        unsigned("2^14", 16384, 128, 128, 1);
        unsigned("2^21 - 1", 2097151, 255, 255, 127);
        unsigned("2^21", 2097152, 128, 128, 128, 1);
        unsigned("2^28 - 1", 268435455, 255, 255, 255, 127);
        unsigned("2^28", 268435456, 128, 128, 128, 128, 1);
        unsigned("each group", 1 + (2 << 7) + (3 << 14) + (4 << 21) + (5 << 28), 129, 130, 131, 132, 5);
        for (int more = 1; more <= 4; more++) {
            unsigned("1 in more bytes than it needs", 1,
                    Checks.joined(Checks.list(129), Checks.repeated(more - 1, 128), Checks.list(0)));
        }
    }

    private static void unsignedLimit() {
        unsigned("2^31 - 1", MAX, 255, 255, 255, 255, 7);
        for (int code : Checks.list(0, 2, 4, 5, 10, 11, 12)) {
            Runs.refused("2^31 with " + code, Runs.ILL_MADE, Runs.then(code, 128, 128, 128, 128, 8));
            Runs.refused("2^32 - 1 with " + code, Runs.ILL_MADE, Runs.then(code, 255, 255, 255, 255, 15));
            Runs.refused("2^32 with " + code, Runs.ILL_MADE, Runs.then(code, 128, 128, 128, 128, 16));
            Runs.refused("2^32 + 1 with " + code, Runs.ILL_MADE, Runs.then(code, 129, 128, 128, 128, 16));
            Runs.refused("2^34 with " + code, Runs.ILL_MADE, Runs.then(code, 128, 128, 128, 128, 64));
            Runs.refused("2^35 - 1 with " + code, Runs.ILL_MADE, Runs.then(code, 255, 255, 255, 255, 127));
        }
    }

    /** As what comes to the ADDRESS, as FILE, as COLUMN, and for nothing. */
    private static void unsigned(String what, int due, int... number) {
        Runs.rows(what + " as address", Runs.then(with(2, number)), due, 1, 1, 0, 1, 0, 1);
        Runs.rows(what + " as file", Runs.then(with(4, number)), 0, due, 1, 0, 1, 0, 1);
        Runs.rows(what + " as column", Runs.then(with(5, number)), 0, 1, 1, due, 1, 0, 1);
        for (int code = 10; code <= 12; code++) {
            Runs.rows(what + " for nothing", Runs.then(with(code, number)), 0, 1, 1, 0, 1, 0, 1);
        }
    }

    private static int[] with(int code, int... number) {
        return Checks.joined(Checks.list(code), number);
    }

    private static void signedGroups() {
        signed("0", 0, 0);
        signed("63", 63, 63);
        signed("-64", -64, 64);
        signed("-1", -1, 127);
        signed("64", 64, 192, 0);
        signed("-65", -65, 191, 127);
        signed("127", 127, 255, 0);
        signed("-128", -128, 128, 127);
        signed("2^13 - 1", 8191, 255, 63);
        signed("-2^13", -8192, 128, 64);
        signed("2^20 - 1", 1048575, 255, 255, 63);
        signed("-2^20", -1048576, 128, 128, 64);
        signed("2^27 - 1", 134217727, 255, 255, 255, 63);
        signed("-2^27", -134217728, 128, 128, 128, 64);
        signed("2^27", 134217728, 128, 128, 128, 192, 0);
        signed("-2^27 - 1", -134217729, 255, 255, 255, 191, 127);
        signed("-1 in two bytes", -1, 255, 127);
        signed("-1 in five bytes", -1, 255, 255, 255, 255, 127);
        signed("1 in five bytes", 1, 129, 128, 128, 128, 0);
        signed("-64 in two bytes", -64, 192, 127);
    }

    private static void signed(String what, int due, int... number) {
        int line = 1000000000;
        Runs.rows(what, Runs.then(Runs.onLine(line, with(3, number))), 0, 1, line + due, 0, 1, 0, 1);
    }

    private static void signedLimits() {
        Runs.rows("2^31 - 1", Runs.then(Runs.onLine(0, 3, 255, 255, 255, 255, 7)), 0, 1, MAX, 0, 1, 0, 1);
        Runs.refused("2^31", Runs.ILL_MADE, Runs.then(Runs.onLine(0, 3, 128, 128, 128, 128, 8)));
        Runs.rows("-2^31 + 1", Runs.then(Runs.onLine(MAX, 3, 129, 128, 128, 128, 120)), 0, 1, 0, 0, 1, 0, 1);
        // -2^31 is a number as it has to be; it is the line behind it that is wrong.
        Runs.refused("-2^31", Runs.OUT_OF_LIMITS, Runs.then(Runs.onLine(MAX, 3, 128, 128, 128, 128, 120)));
        Runs.refused("-2^31 - 1", Runs.ILL_MADE, Runs.then(Runs.onLine(MAX, 3, 255, 255, 255, 255, 119)));
        Runs.refused("-2^34", Runs.ILL_MADE, Runs.then(Runs.onLine(MAX, 3, 128, 128, 128, 128, 64)));
        Runs.refused("2^34 - 1", Runs.ILL_MADE, Runs.then(Runs.onLine(0, 3, 255, 255, 255, 255, 63)));
        Runs.refused("2^32", Runs.ILL_MADE, Runs.then(Runs.onLine(0, 3, 128, 128, 128, 128, 16)));
        Runs.refused("-2^32", Runs.ILL_MADE, Runs.then(Runs.onLine(MAX, 3, 128, 128, 128, 128, 112)));
    }

    private static void atMostFiveBytes() {
        for (int code : Checks.list(0, 2, 3, 4, 5, 10, 11, 12)) {
            Runs.refused("six bytes with " + code, Runs.ILL_MADE, Runs.then(code, 129, 128, 128, 128, 128, 0));
            Runs.refused("seven bytes with " + code, Runs.ILL_MADE, Runs.then(code, 129, 128, 128, 128, 128, 128, 0));
            Runs.refused("five bytes that go on with " + code, Runs.ILL_MADE, code, 128, 128, 128, 128, 128);
            Runs.refused("four bytes that go on with " + code, Runs.CUT_OFF, code, 128, 128, 128, 128);
        }
        Runs.refused("six bytes of -1", Runs.ILL_MADE, Runs.then(3, 255, 255, 255, 255, 255, 127));
    }

    // The four groups before it are 0, so that it alone decides.
    private static void everyFifthByte() {
        for (int fifth = 0; fifth <= 127; fifth++) {
            int[] unsigned = Runs.then(4, 128, 128, 128, 128, fifth);
            int[] signed = Runs.then(Runs.onLine(MAX, 3, 128, 128, 128, 128, fifth));
            if (fifth < 8) {
                Runs.accepted("unsigned, fifth byte " + fifth, 1, unsigned);
            } else {
                Runs.refused("unsigned, fifth byte " + fifth, Runs.ILL_MADE, unsigned);
            }
            if (fifth == 0 || fifth > 120) {
                Runs.accepted("signed, fifth byte " + fifth, 1, signed);
            } else {
                boolean number = fifth < 8 || fifth == 120;
                Runs.refused("signed, fifth byte " + fifth, number ? Runs.OUT_OF_LIMITS : Runs.ILL_MADE, signed);
            }
        }
    }

    private static void lengthOfAnInstruction() {
        Runs.accepted("n in two bytes", 1, 0, 129, 0, 1);
        Runs.accepted("n in five bytes", 1, 0, 129, 128, 128, 128, 0, 1);
        Runs.refused("n in six bytes", Runs.ILL_MADE, 0, 129, 128, 128, 128, 128, 0, 1);
        Runs.refused("n is 2^31 - 1", Runs.CUT_OFF, 0, 255, 255, 255, 255, 7, 1);
        Runs.refused("n is 2^31", Runs.ILL_MADE, 0, 128, 128, 128, 128, 8, 1);
        Runs.refused("n is 0 in five bytes", Runs.ILL_MADE, 0, 128, 128, 128, 128, 0, 1);
        Runs.refused("bit 6 of n is no sign", Runs.CUT_OFF, 0, 127, 1);
    }
}
