public final class Promise11CountTest {
    public static void main(String[] args) {
        LinePrograms x = Checks.program(1, 1, 0, 1, 1);
        x.entry(1, 1, 1, 1, 1);
        x.entry(2, 1, 1, 1, 1);
        counts("before a run", x, 5, 0, 2);
        x.run();
        counts("behind a run", x, 5, 3, 2);
        x.put(1);
        Checks.refused("run", java.util.NoSuchElementException.class, x::run);
        counts("behind a refused run", x, 6, 3, 2);
        x.clear();
        counts("behind clear", x, 0, 3, 2);
        x.write(2);
        counts("behind write", x, 14, 3, 0);
        x.clear();
        x.run();
        counts("behind a run of nothing", x, 0, 0, 0);
        Checks.finish();
    }

    private static void counts(String when, LinePrograms x, int bytes, int rows, int entries) {
        Checks.equal("bytes " + when, bytes, x.count(0));
        Checks.equal("rows " + when, rows, x.count(1));
        Checks.equal("entries " + when, entries, x.count(2));
        int[] none = {-1, 3, 4, 256, Integer.MAX_VALUE, Integer.MIN_VALUE};
        for (int what : none) {
            Checks.equal("count(" + what + ") " + when, -1, x.count(what));
        }
    }
}
