public final class Promise03PutTest {
    public static void main(String[] args) {
        theRemainder();
        theLastOne();
        whenItIsFull();
        onlyTheProgramChanges();
        Checks.finish();
    }

    private static void theRemainder() {
        LinePrograms x = new LinePrograms();
        int[] given = {0, 1, 127, 128, 255, 256, 257, 511, 512, -1, -128, -255, -256, -257, Integer.MAX_VALUE,
            Integer.MIN_VALUE};
        int[] kept = {0, 1, 127, 128, 255, 0, 1, 255, 0, 255, 128, 1, 0, 255, 255, 0};
        for (int i = 0; i < given.length; i++) {
            Checks.equal("put(" + given[i] + ")", i + 1, x.put(given[i]));
        }
        Checks.equal("the bytes", kept, Checks.bytesOf(x));
    }

    private static void theLastOne() {
        LinePrograms x = new LinePrograms();
        Checks.equal("write", 598, x.write(Tables.giveAlmostTooMuch(x)));
        Checks.equal("the 599th", 599, x.put(7));
        Checks.equal("the 600th", 600, x.put(9));
        Checks.refused("the 601st", IllegalStateException.class, () -> x.put(11));
        Checks.refused("the 601st, tried again", IllegalStateException.class, () -> x.put(11));
        Checks.equal("bytes", 600, x.count(0));
        Checks.equal("byteAt(598)", 7, x.byteAt(598));
        Checks.equal("byteAt(599)", 9, x.byteAt(599));
        Checks.equal("byteAt(600)", -1, x.byteAt(600));
        Checks.equal("clear", 600, x.clear());
        Checks.equal("put when it is empty again", 1, x.put(5));
    }

    private static void whenItIsFull() {
        for (int b : Checks.list(0, 1, 255, -1, 256)) {
            Twins.refused("put(" + b + ")", IllegalStateException.class, x -> {
                Checks.putAll(x, 2, 5, 1, 2, 1, 0, 1, 1);
                x.run();
                Tables.fillProgram(x, 7, 9);
                x.entry(3, 2, 9, 0, 0);
                x.header(12, 10, -2, 0);
            }, x -> x.put(b));
        }
    }

    private static void onlyTheProgramChanges() {
        LinePrograms x = Checks.program(1, 0, 1, 1);
        x.run();
        x.entry(5, 1, 1, 1, 1);
        x.put(18);
        Checks.equal("rows", 2, x.count(1));
        Checks.equal("entries", 1, x.count(2));
        Checks.equal("the bytes", Checks.list(1, 0, 1, 1, 18), Checks.bytesOf(x));
    }
}
