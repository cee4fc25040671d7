public final class Promise05ByteAtTest {
    public static void main(String[] args) {
        LinePrograms x = Checks.program(200, 0, 255, 17);
        Checks.equal("byteAt(0)", 200, x.byteAt(0));
        Checks.equal("byteAt(1)", 0, x.byteAt(1));
        Checks.equal("byteAt(2)", 255, x.byteAt(2));
        Checks.equal("byteAt(3)", 17, x.byteAt(3));
        int[] none = {-1, 4, 5, 599, 600, 601, Integer.MAX_VALUE, Integer.MIN_VALUE};
        for (int i : none) {
            Checks.equal("byteAt(" + i + ")", -1, x.byteAt(i));
        }
        x.clear();
        Checks.equal("byteAt(0) of an empty program", -1, x.byteAt(0));
        x.put(3);
        Checks.equal("byteAt(1), a byte of before", -1, x.byteAt(1));
        Checks.finish();
    }
}
