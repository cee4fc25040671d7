public final class Promise03PutTest {
    public static void main(String[] args) {
        LinePrograms x = new LinePrograms();
        int[] given = {0, 1, 127, 128, 255, 256, 257, 511, -1, -128, -256, -257, Integer.MAX_VALUE, Integer.MIN_VALUE};
        int[] kept = {0, 1, 127, 128, 255, 0, 1, 255, 255, 128, 0, 255, 255, 0};
        for (int i = 0; i < given.length; i++) {
            Checks.equal("put(" + given[i] + ")", i + 1, x.put(given[i]));
        }
        Checks.equal("the bytes", kept, Checks.bytesOf(x));
        theLastOne();
        Checks.finish();
    }

    private static void theLastOne() {
        LinePrograms x = new LinePrograms();
        Checks.equal("write", 598, x.write(Checks.fillAlmost(x)));
        Checks.equal("the 599th", 599, x.put(7));
        Checks.equal("the 600th", 600, x.put(9));
        Checks.refused("the 601st", IllegalStateException.class, () -> x.put(11));
        Checks.equal("bytes", 600, x.count(0));
        Checks.equal("byteAt(598)", 7, x.byteAt(598));
        Checks.equal("byteAt(599)", 9, x.byteAt(599));
        Checks.equal("byteAt(600)", -1, x.byteAt(600));
        Checks.equal("clear", 600, x.clear());
        Checks.equal("put when it is empty again", 1, x.put(5));
    }
}
