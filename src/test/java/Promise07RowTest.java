public final class Promise07RowTest {
    private static final Class<IndexOutOfBoundsException> NO_SUCH = IndexOutOfBoundsException.class;
    private static final int[] PROGRAM = {2, 100, 3, 41, 4, 9, 5, 33, 6, 7, 1, 7, 2, 1, 0, 1, 1};

    public static void main(String[] args) {
        whatARowTells();
        noSuchRow();
        nothingThatARowTells();
        noRowsAtAll();
        ninetyRows();
        rowsOfAnEarlierRun();
        Checks.finish();
    }

    private static void whatARowTells() {
        LinePrograms x = Checks.program(PROGRAM);
        Checks.equal("run", 2, x.run());
        int[][] due = {{100, 9, 42, 33, 0, 1, 0}, {101, 9, 42, 33, 0, 1, 1}};
        for (int i = 0; i < due.length; i++) {
            for (int what = 0; what < 7; what++) {
                Checks.equal("row(" + i + ", " + what + ")", due[i][what], x.row(i, what));
            }
        }
    }

    private static void noSuchRow() {
        for (int i : Checks.list(-1, 2, 3, 89, 90, 91, Integer.MAX_VALUE, Integer.MIN_VALUE)) {
            refused(i, 0);
            refused(i, 6);
        }
    }

    private static void nothingThatARowTells() {
        for (int what : Checks.list(-1, 7, 8, Integer.MAX_VALUE, Integer.MIN_VALUE)) {
            refused(0, what);
            refused(1, what);
            refused(2, what);
            refused(-1, what);
        }
    }

    private static void refused(int i, int what) {
        Twins.refused("row(" + i + ", " + what + ")", NO_SUCH, x -> {
            Checks.putAll(x, PROGRAM);
            x.run();
            x.entry(3, 2, 9, 0, 0);
        }, x -> x.row(i, what));
    }

    private static void noRowsAtAll() {
        LinePrograms x = new LinePrograms();
        Checks.refused("row(0, 0) of a new object", NO_SUCH, () -> x.row(0, 0));
        Checks.equal("run of nothing", 0, x.run());
        Checks.refused("row(0, 0) behind a run of nothing", NO_SUCH, () -> x.row(0, 0));
        Checks.putAll(x, 0, 1, 1);
        Checks.refused("row(0, 0) before the run", NO_SUCH, () -> x.row(0, 0));
        x.run();
        Checks.equal("row(0, 6) behind it", 1, x.row(0, 6));
        Checks.refused("row(1, 6) behind it", NO_SUCH, () -> x.row(1, 6));
    }

    private static void ninetyRows() {
        LinePrograms x = Checks.program(Checks.joined(Checks.repeated(89, 33), Runs.end()));
        Checks.equal("run", 90, x.run());
        for (int i = 0; i < 90; i++) {
            Checks.equal("address of row " + i, Math.min(i + 1, 89), x.row(i, 0));
            Checks.equal("line of row " + i, Math.min(i + 2, 90), x.row(i, 2));
        }
        Checks.equal("row(88, 6)", 0, x.row(88, 6));
        Checks.equal("row(89, 6)", 1, x.row(89, 6));
        Checks.refused("row(90, 0)", NO_SUCH, () -> x.row(90, 0));
        Checks.refused("row(90, 6)", NO_SUCH, () -> x.row(90, 6));
    }

    private static void rowsOfAnEarlierRun() {
        LinePrograms x = Checks.program(PROGRAM);
        x.run();
        x.run();
        x.clear();
        Checks.putAll(x, 0, 1, 1);
        Checks.equal("row 1 before the next run", 101, x.row(1, 0));
        x.run();
        Checks.refused("row 1 behind it", NO_SUCH, () -> x.row(1, 0));
        Checks.equal("the new row 0", Checks.list(0, 1, 1, 0, 1, 0, 1), Checks.rowOf(x, 0));
    }
}
