public final class Promise08FindTest {
    public static void main(String[] args) {
        found("no rows", new int[0], 0, -1);
        oneSequence();
        rowsAtOneAddress();
        severalSequences();
        earlierRows();
        Checks.finish();
    }

    private static void oneSequence() {
        int[] bytes = {2, 10, 1, 2, 5, 1, 2, 5, 0, 1, 1};
        found("below the first", bytes, 9, -1);
        found("at the first", bytes, 10, 0);
        found("behind the first", bytes, 14, 0);
        found("at the second", bytes, 15, 1);
        found("before the END", bytes, 19, 1);
        found("at the END", bytes, 20, -1);
        found("behind the END", bytes, 21, -1);
        found("the greatest", bytes, Integer.MAX_VALUE, -1);
        found("below 0", bytes, -1, -1);
        found("the least", bytes, Integer.MIN_VALUE, -1);
    }

    private static void rowsAtOneAddress() {
        int[] bytes = {2, 10, 1, 1, 1, 2, 5, 1, 0, 1, 1};
        found("the last of three", bytes, 10, 2);
        found("the last of three, behind it", bytes, 14, 2);
        found("an END at the row's own address", bytes, 15, -1);
        found("an END alone", Checks.list(0, 1, 1), 0, -1);
    }

    private static void severalSequences() {
        // Rows 0 to 2 are at 10, 20 and the END 30; rows 3 to 5 at 15, 40 and the END 50; the LAST row 6 at 7.
        int[] bytes = {2, 10, 1, 2, 10, 1, 2, 10, 0, 1, 1, 2, 15, 1, 2, 25, 1, 2, 10, 0, 1, 1, 2, 7, 0, 1, 1};
        found("in both: the first", bytes, 16, 0);
        found("in both, later", bytes, 29, 1);
        found("in the second alone", bytes, 30, 3);
        found("in the second, later", bytes, 49, 4);
        found("behind all", bytes, 50, -1);
        // A LAST row at 3, and the next sequence begins at 9.
        int[] gap = {2, 1, 1, 2, 2, 0, 1, 1, 2, 9, 1, 2, 1, 0, 1, 1};
        found("before the gap", gap, 2, 0);
        found("in the gap, the LAST row's address", gap, 3, -1);
        found("in the gap", gap, 8, -1);
        found("behind the gap", gap, 9, 2);
    }

    private static void earlierRows() {
        LinePrograms x = Checks.program(2, 10, 1, 1, 2, 5, 1, 2, 5, 0, 1, 1);
        x.run();
        x.run();
        Checks.equal("find in the first program", 2, x.find(15));
        x.clear();
        Checks.putAll(x, 2, 3, 1, 2, 1, 0, 1, 1);
        x.run();
        Checks.equal("find in the second program", 0, x.find(3));
        Checks.equal("find of what the first program had", -1, x.find(10));
        Checks.equal("find of what the first program had, later", -1, x.find(15));
        x.put(2);
        Checks.refused("run", IndexOutOfBoundsException.class, x::run);
        Checks.equal("find behind a refused run", 0, x.find(3));
        x.clear();
        Checks.equal("find without the program", 0, x.find(3));
        x.run();
        Checks.equal("find behind a run of nothing", -1, x.find(3));
    }

    private static void found(String what, int[] bytes, int address, int due) {
        LinePrograms x = Checks.program(bytes);
        x.run();
        Checks.equal("find, " + what, due, x.find(address));
    }
}
