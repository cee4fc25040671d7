public final class Promise09EntryTest {
    private static final int MAX = Integer.MAX_VALUE;
    private static final int MIN = Integer.MIN_VALUE;

    public static void main(String[] args) {
        LinePrograms x = new LinePrograms();
        wrong(x, 0, -1, 0, 0, 0, 0);
        wrong(x, 0, 0, -1, 0, 0, 0);
        wrong(x, 0, 0, 0, -1, 0, 0);
        wrong(x, 0, 0, 0, 0, -1, 0);
        wrong(x, 0, 0, 0, 0, 0, -1);
        wrong(x, 0, 0, 0, 0, 0, 2);
        wrong(x, 0, MIN, 0, 0, 0, 0);
        wrong(x, 0, 0, MIN, 0, 0, 0);
        wrong(x, 0, 0, 0, MIN, 0, 0);
        wrong(x, 0, 0, 0, 0, MIN, 0);
        wrong(x, 0, 0, 0, 0, 0, MIN);
        wrong(x, 0, 0, 0, 0, 0, MAX);
        Checks.equal("zeros", 1, x.entry(0, 0, 0, 0, 0));
        wrong(x, 1, 0, 0, 0, 0, 0);
        Checks.equal("one above", 2, x.entry(1, 0, 0, 0, 1));
        wrong(x, 2, 1, 9, 9, 9, 1);
        wrong(x, 2, 0, 9, 9, 9, 1);
        wrong(x, 2, 5, 9, 9, 9, 2);
        Checks.equal("the greatest", 3, x.entry(MAX, MAX, MAX, MAX, 1));
        wrong(x, 3, MAX, 0, 0, 0, 0);
        theLastOne();
        behindWrite();
        Checks.finish();
    }

    private static void wrong(LinePrograms x, int had, int address, int file, int line, int column, int statement) {
        Checks.refused("entry " + address + " " + file + " " + line + " " + column + " " + statement,
                IllegalArgumentException.class, () -> x.entry(address, file, line, column, statement));
        Checks.equal("entries behind a wrong one", had, x.count(2));
    }

    private static void theLastOne() {
        LinePrograms x = new LinePrograms();
        for (int i = 0; i < 60; i++) {
            Checks.equal("entry " + i, i + 1, x.entry(i, 1, 1, 0, 1));
        }
        Checks.refused("the 61st", IllegalStateException.class, () -> x.entry(60, 1, 1, 0, 1));
        wrong(x, 60, 59, 1, 1, 0, 1);
        wrong(x, 60, 60, 1, 1, 0, 2);
        wrong(x, 60, 60, 1, -1, 0, 1);
        Checks.equal("write", 70, x.write(59));
        Checks.equal("the rows", 61, x.run());
        Checks.equal("the last entry", 59, x.row(59, 0));
    }

    // The entry before belongs to another table then.
    private static void behindWrite() {
        LinePrograms x = new LinePrograms();
        x.entry(100, 1, 1, 0, 1);
        x.write(100);
        Checks.equal("a lower address in a new table", 1, x.entry(7, 1, 1, 0, 1));
    }
}
