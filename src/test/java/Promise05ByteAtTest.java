public final class Promise05ByteAtTest {
    public static void main(String[] args) {
        ofSome();
        ofNone();
        ofAll();
        everyByte();
        Checks.finish();
    }

    private static void ofSome() {
        LinePrograms x = Checks.program(200, 0, 255, 17);
        Checks.equal("byteAt(0)", 200, x.byteAt(0));
        Checks.equal("byteAt(1)", 0, x.byteAt(1));
        Checks.equal("byteAt(2)", 255, x.byteAt(2));
        Checks.equal("byteAt(3)", 17, x.byteAt(3));
        int[] none = {-1, 4, 5, 599, 600, 601, Integer.MAX_VALUE, Integer.MIN_VALUE};
        for (int i : none) {
            Twins.answered("byteAt(" + i + ")", -1, y -> Checks.putAll(y, 200, 0, 255, 17), y -> y.byteAt(i));
        }
    }

    private static void ofNone() {
        LinePrograms x = new LinePrograms();
        Checks.equal("byteAt(0) of a new object", -1, x.byteAt(0));
        Checks.equal("byteAt(-1) of a new object", -1, x.byteAt(-1));
        Checks.putAll(x, 7, 8);
        x.clear();
        Checks.equal("byteAt(0) of an empty program", -1, x.byteAt(0));
        x.put(3);
        Checks.equal("byteAt(0)", 3, x.byteAt(0));
        Checks.equal("byteAt(1), a byte of before", -1, x.byteAt(1));
    }

    private static void ofAll() {
        LinePrograms x = new LinePrograms();
        Tables.fillProgram(x, 7, 255);
        Checks.equal("byteAt(0) of 600", 0, x.byteAt(0));
        Checks.equal("byteAt(1) of 600", 5, x.byteAt(1));
        Checks.equal("byteAt(598) of 600", 7, x.byteAt(598));
        Checks.equal("byteAt(599) of 600", 255, x.byteAt(599));
        Checks.equal("byteAt(600) of 600", -1, x.byteAt(600));
        Checks.equal("byteAt(-1) of 600", -1, x.byteAt(-1));
    }

    private static void everyByte() {
        for (int from : Checks.list(0, 128)) {
            LinePrograms x = new LinePrograms();
            for (int b = from; b < from + 128; b++) {
                x.put(b);
            }
            for (int b = from; b < from + 128; b++) {
                Checks.equal("byteAt(" + (b - from) + ")", b, x.byteAt(b - from));
            }
        }
    }
}
