public final class Promise08FindTest {
    private static final int MAX = Integer.MAX_VALUE;
    private static final int MIN = Integer.MIN_VALUE;

    public static void main(String[] args) {
        noRows();
        oneSequence();
        atTheLimits();
        rowsAtOneAddress();
        severalSequences();
        lastRowsAreNone();
        ninetyRows();
        earlierRows();
        Checks.finish();
    }

    private static void noRows() {
        for (int address : Checks.list(MIN, -1, 0, 1, MAX)) {
            Checks.equal("find(" + address + ") of a new object", -1, new LinePrograms().find(address));
            found("no rows", new int[0], address, -1);
            Twins.answered("find(" + address + ")", -1, x -> Checks.putAll(x, 1, 2, 5, 0, 1, 1), x -> x.find(address));
        }
    }

    private static void oneSequence() {
        int[] bytes = {2, 10, 1, 2, 5, 1, 2, 5, 0, 1, 1};
        found("below the first", bytes, 9, -1);
        found("at the first", bytes, 10, 0);
        found("behind the first", bytes, 14, 0);
        found("at the second", bytes, 15, 1);
        found("before the END", bytes, 19, 1);
        found("at the END", bytes, 20, -1);
        found("behind the END", bytes, 21, -1);
        found("the greatest", bytes, MAX, -1);
        found("0", bytes, 0, -1);
        found("below 0", bytes, -1, -1);
        found("the least", bytes, MIN, -1);
    }

    private static void atTheLimits() {
        int[] all = Runs.then(1, 2, 255, 255, 255, 255, 7);
        found("0, at the first", all, 0, 0);
        found("-1, below the first", all, -1, -1);
        found("the greatest but one", all, MAX - 1, 0);
        found("the greatest, at the END", all, MAX, -1);
        found("the least", all, MIN, -1);
        int[] greatest = Runs.then(Runs.at(MAX, 1));
        found("the greatest, where nothing is above it", greatest, MAX, -1);
        found("the greatest but one, below all", greatest, MAX - 1, -1);
        int[] oneWide = Runs.then(Runs.at(MAX - 1, 1, 2, 1));
        found("one address alone", oneWide, MAX - 1, 0);
        found("one below it", oneWide, MAX - 2, -1);
        found("one above it", oneWide, MAX, -1);
    }

    private static void rowsAtOneAddress() {
        int[] bytes = {2, 10, 1, 1, 1, 2, 5, 1, 0, 1, 1};
        found("the last of three", bytes, 10, 2);
        found("the last of three, behind it", bytes, 14, 2);
        found("an END at the row's own address", bytes, 15, -1);
        found("an END alone", Checks.list(0, 1, 1), 0, -1);
        found("a row and an END at one address", Checks.list(1, 0, 1, 1), 0, -1);
    }

    private static void severalSequences() {
        // Rows 0 to 2 are at 10, 20 and the END 30; rows 3 to 5 at 15, 40 and the END 50; the LAST row 6 at 7.
        int[] bytes = {2, 10, 1, 2, 10, 1, 2, 10, 0, 1, 1, 2, 15, 1, 2, 25, 1, 2, 10, 0, 1, 1, 2, 7, 0, 1, 1};
        found("in both: the first", bytes, 16, 0);
        found("in both, later", bytes, 29, 1);
        found("in the second alone", bytes, 30, 3);
        found("in the second, later", bytes, 49, 4);
        found("behind all", bytes, 50, -1);
        found("below all", bytes, 9, -1);
        // The second one comes first by its addresses.
        int[] turned = Checks.joined(Runs.then(2, 10, 1, 2, 5), Runs.then(2, 3, 1, 2, 20));
        found("only in the second", turned, 3, 2);
        found("in both, though the second begins below", turned, 10, 0);
        found("behind the first's END", turned, 15, 2);
    }

    // A LAST row at 3, and the next sequence begins at 9.
    private static void lastRowsAreNone() {
        int[] gap = {2, 1, 1, 2, 2, 0, 1, 1, 2, 9, 1, 2, 1, 0, 1, 1};
        found("before the gap", gap, 2, 0);
        found("in the gap, the LAST row's address", gap, 3, -1);
        found("in the gap", gap, 8, -1);
        found("behind the gap", gap, 9, 2);
        int[] onlyLast = Checks.joined(Runs.then(2, 1), Runs.then(2, 9));
        found("between two ENDs", onlyLast, 5, -1);
        found("at an END", onlyLast, 1, -1);
    }

    // Row i is at 2 * i, the END in row 89 at 178.
    private static void ninetyRows() {
        LinePrograms x = Checks.program(Runs.then(Checks.joined(Checks.list(1), Checks.repeated(88, 46),
                Checks.list(2, 2))));
        Checks.equal("run", 90, x.run());
        for (int address = 0; address < 178; address++) {
            Checks.equal("find(" + address + ") of 90 rows", address / 2, x.find(address));
        }
        Checks.equal("find(178) of 90 rows", -1, x.find(178));
    }

    private static void earlierRows() {
        LinePrograms x = Checks.program(2, 10, 1, 1, 2, 5, 1, 2, 5, 0, 1, 1);
        x.run();
        x.run();
        Checks.equal("find in the first program", 2, x.find(15));
        x.clear();
        Checks.putAll(x, 2, 3, 1, 2, 1, 0, 1, 1);
        x.run();
        Checks.equal("find in the second program", 0, x.find(3));
        Checks.equal("find of what the first program had", -1, x.find(10));
        Checks.equal("find of what the first program had, later", -1, x.find(15));
        x.put(2);
        Checks.refused("run", IndexOutOfBoundsException.class, x::run);
        Checks.equal("find behind a refused run", 0, x.find(3));
        x.clear();
        Checks.equal("find without the program", 0, x.find(3));
        x.run();
        Checks.equal("find behind a run of nothing", -1, x.find(3));
    }

    private static void found(String what, int[] bytes, int address, int due) {
        LinePrograms x = Checks.program(bytes);
        x.run();
        Checks.equal("find, " + what, due, x.find(address));
    }
}
