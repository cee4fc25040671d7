public final class Promise02HeaderTest {
    public static void main(String[] args) {
        allowed(10, 14, -5, 1);
        allowed(20, 14, -5, 1);
        allowed(13, 1, 0, 1);
        allowed(13, 30, -5, 1);
        allowed(13, 30, -20, 0);
        allowed(13, 21, -20, 0);
        allowed(13, 14, 0, 0);
        allowed(13, 6, -5, 1);

        ruledOut(9, 14, -5, 1);
        ruledOut(21, 14, -5, 1);
        ruledOut(13, 0, 0, 1);
        ruledOut(13, -1, 0, 1);
        ruledOut(13, 31, -5, 1);
        ruledOut(13, 30, -21, 1);
        ruledOut(13, 14, 1, 1);
        ruledOut(13, 5, -5, 1);
        ruledOut(13, 20, -20, 1);
        ruledOut(13, 14, -5, 2);
        ruledOut(13, 14, -5, -1);
        ruledOut(Integer.MIN_VALUE, 14, -5, 1);
        ruledOut(Integer.MAX_VALUE, 14, -5, 1);
        ruledOut(13, Integer.MAX_VALUE, -5, 1);
        ruledOut(13, Integer.MIN_VALUE, Integer.MIN_VALUE, 1);
        ruledOut(13, 14, Integer.MIN_VALUE, 1);
        ruledOut(13, 14, -5, Integer.MAX_VALUE);

        nothingElseChanges();
        Checks.finish();
    }

    private static void allowed(int base, int range, int low, int start) {
        LinePrograms x = new LinePrograms();
        Checks.isTrue("header", x.header(base, range, low, start));
        inForce(x, base, range, low, start);
    }

    private static void ruledOut(int base, int range, int low, int start) {
        LinePrograms x = new LinePrograms();
        x.header(11, 9, -3, 0);
        Checks.isFalse("header " + base + " " + range + " " + low + " " + start, x.header(base, range, low, start));
        inForce(x, 11, 9, -3, 0);
    }

    /** One row for each thing that the header decides. */
    private static void inForce(LinePrograms x, int base, int range, int low, int start) {
        Checks.putAll(x, 3, 50, base, base + range - 1, base + range, 8, 255, 0, 1, 1);
        String header = "with header " + base + " " + range + " " + low + " " + start + " ";
        Checks.equal(header + "run", 5, x.run());
        int line = 51 + low;
        Checks.equal(header + "BASE", Checks.list(0, 1, line, 0, start, 0, 0), Checks.rowOf(x, 0));
        line += low + range - 1;
        Checks.equal(header + "RANGE - 1", Checks.list(0, 1, line, 0, start, 0, 0), Checks.rowOf(x, 1));
        line += low;
        Checks.equal(header + "RANGE", Checks.list(1, 1, line, 0, start, 0, 0), Checks.rowOf(x, 2));
        int step = (255 - base) / range;
        line += low + (255 - base) % range;
        Checks.equal(header + "255", Checks.list(1 + 2 * step, 1, line, 0, start, 0, 0), Checks.rowOf(x, 3));
    }

    private static void nothingElseChanges() {
        LinePrograms x = Checks.program(1, 0, 1, 1);
        x.run();
        x.entry(5, 1, 1, 1, 1);
        x.header(20, 30, -20, 0);
        Checks.equal("bytes", 4, x.count(0));
        Checks.equal("rows", 2, x.count(1));
        Checks.equal("entries", 1, x.count(2));
        Checks.equal("a row that was made before", 1, x.row(0, 4));
        x.run();
        Checks.equal("a row that is made behind it", 0, x.row(0, 4));
    }
}
