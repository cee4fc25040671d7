public final class Promise07RowTest {
    public static void main(String[] args) {
        LinePrograms x = Checks.program(2, 100, 3, 41, 4, 9, 5, 33, 6, 7, 1, 7, 2, 1, 0, 1, 1);
        Checks.equal("run", 2, x.run());
        int[][] due = {{100, 9, 42, 33, 0, 1, 0}, {101, 9, 42, 33, 0, 1, 1}};
        for (int i = 0; i < due.length; i++) {
            for (int what = 0; what < 7; what++) {
                Checks.equal("row(" + i + ", " + what + ")", due[i][what], x.row(i, what));
            }
        }
        int[] noRows = {-1, 2, 3, 89, 90, Integer.MAX_VALUE, Integer.MIN_VALUE};
        for (int i : noRows) {
            Checks.refused("row(" + i + ", 0)", IndexOutOfBoundsException.class, () -> x.row(i, 0));
        }
        int[] nothing = {-1, 7, 8, Integer.MAX_VALUE, Integer.MIN_VALUE};
        for (int what : nothing) {
            Checks.refused("row(0, " + what + ")", IndexOutOfBoundsException.class, () -> x.row(0, what));
            Checks.refused("row(1, " + what + ")", IndexOutOfBoundsException.class, () -> x.row(1, what));
        }
        x.clear();
        Checks.putAll(x, 0, 1, 1);
        x.run();
        Checks.refused("a row of an earlier run", IndexOutOfBoundsException.class, () -> x.row(1, 0));
        Checks.equal("the new row 0", Checks.list(0, 1, 1, 0, 1, 0, 1), Checks.rowOf(x, 0));
        Checks.finish();
    }
}
