public final class Promise09EntryTest {
    private static final int MAX = Integer.MAX_VALUE;
    private static final int MIN = Integer.MIN_VALUE;

    public static void main(String[] args) {
        belowZero();
        statement();
        rising();
        theLastOne();
        wrongWhenFull();
        behindWrite();
        behindARefusedWrite();
        onlyTheTableChanges();
        Checks.finish();
    }

    private static void belowZero() {
        for (int number : Checks.list(-1, MIN)) {
            wrong(number, 9, 9, 9, 1);
            wrong(9, number, 9, 9, 1);
            wrong(9, 9, number, 9, 1);
            wrong(9, 9, 9, number, 1);
            wrong(9, 9, 9, 9, number);
        }
        taken(0, 9, 9, 9, 1);
        taken(9, 0, 9, 9, 1);
        taken(9, 9, 0, 9, 1);
        taken(9, 9, 9, 0, 1);
        taken(0, 0, 0, 0, 0);
        taken(MAX, 9, 9, 9, 1);
        taken(9, MAX, 9, 9, 1);
        taken(9, 9, MAX, 9, 1);
        taken(9, 9, 9, MAX, 1);
        taken(MAX, MAX, MAX, MAX, 1);
    }

    private static void statement() {
        taken(9, 9, 9, 9, 0);
        taken(9, 9, 9, 9, 1);
        for (int statement : Checks.list(-1, 2, 3, 256, 257, MAX, MIN)) {
            wrong(9, 9, 9, 9, statement);
        }
    }

    /** It is the first of a table, and comes out of it as it went in. */
    private static void taken(int address, int file, int line, int column, int statement) {
        LinePrograms x = new LinePrograms();
        Checks.equal("entry", 1, x.entry(address, file, line, column, statement));
        x.write(address);
        x.run();
        Checks.equal("its row", Checks.list(address, file, line, column, statement, 0, 0), Checks.rowOf(x, 0));
    }

    /** It is refused as the first of a table and as a later one. */
    private static void wrong(int address, int file, int line, int column, int statement) {
        wrongBehind(Tables.entries(), address, file, line, column, statement);
        wrongBehind(Tables.entries(2, 3, 4, 5, 1, 5, 6, 7, 8, 0), address, file, line, column, statement);
    }

    private static void wrongBehind(int[] entries, int address, int file, int line, int column, int statement) {
        Twins.refused("entry " + address + " " + file + " " + line + " " + column + " " + statement,
                IllegalArgumentException.class, x -> {
                    Checks.putAll(x, 1, 0, 1, 1);
                    x.run();
                    Tables.give(x, entries);
                }, x -> x.entry(address, file, line, column, statement));
    }

    private static void rising() {
        int[] five = Tables.entries(5, 1, 1, 0, 1);
        for (int address : Checks.list(0, 4, 5)) {
            wrongBehind(five, address, 1, 1, 0, 1);
        }
        LinePrograms x = new LinePrograms();
        Tables.give(x, five);
        Checks.equal("one above", 2, x.entry(6, 1, 1, 0, 1));
        wrongBehind(Tables.entries(5, 1, 1, 0, 1, 9, 1, 1, 0, 1), 7, 1, 1, 0, 1);
        int[] zero = Tables.entries(0, 1, 1, 0, 1);
        wrongBehind(zero, 0, 1, 1, 0, 1);
        LinePrograms y = new LinePrograms();
        Tables.give(y, zero);
        Checks.equal("from 0 to the greatest", 2, y.entry(MAX, 1, 1, 0, 1));
        wrongBehind(Tables.entries(MAX, 1, 1, 0, 1), MAX, 1, 1, 0, 1);
        // What is refused is not the entry before.
        Checks.refused("one that is wrong", IllegalArgumentException.class, () -> x.entry(100, 1, 1, 0, 2));
        Checks.equal("one below the wrong one", 3, x.entry(7, 1, 1, 0, 1));
    }

    private static void sixty(LinePrograms x) {
        for (int i = 0; i < 60; i++) {
            x.entry(i, 1, 1 + i, 0, 1);
        }
    }

    private static void theLastOne() {
        LinePrograms x = new LinePrograms();
        for (int i = 0; i < 60; i++) {
            Checks.equal("entry " + i, i + 1, x.entry(i, 1, 1 + i, 0, 1));
        }
        Checks.refused("the 61st", IllegalStateException.class, () -> x.entry(60, 1, 1, 0, 1));
        Checks.equal("entries", 60, x.count(2));
        Checks.equal("write", 70, x.write(59));
        Checks.equal("the rows", 61, x.run());
        Checks.equal("the first entry", Checks.list(0, 1, 1, 0, 1, 0, 0), Checks.rowOf(x, 0));
        Checks.equal("the last entry", Checks.list(59, 1, 60, 0, 1, 0, 0), Checks.rowOf(x, 59));
        Twins.refused("the 61st entry", IllegalStateException.class, Promise09EntryTest::sixty,
                y -> y.entry(60, 7, 8, 9, 0));
        Twins.refused("the 61st entry, the greatest", IllegalStateException.class, Promise09EntryTest::sixty,
                y -> y.entry(MAX, MAX, MAX, MAX, 1));
    }

    // The document names a wrong entry before the number of entries.
    private static void wrongWhenFull() {
        int[][] wrong = {{59, 1, 1, 0, 1}, {0, 1, 1, 0, 1}, {-1, 1, 1, 0, 1}, {60, -1, 1, 0, 1}, {60, 1, -1, 0, 1},
            {60, 1, 1, -1, 1}, {60, 1, 1, 0, 2}, {60, 1, 1, 0, -1}};
        for (int[] e : wrong) {
            Twins.refused("a wrong 61st", IllegalArgumentException.class, Promise09EntryTest::sixty,
                    x -> x.entry(e[0], e[1], e[2], e[3], e[4]));
        }
    }

    // The entry before belongs to another table then.
    private static void behindWrite() {
        LinePrograms x = new LinePrograms();
        x.entry(100, 1, 1, 0, 1);
        x.write(100);
        Checks.equal("a lower address in a new table", 1, x.entry(7, 1, 1, 0, 1));
        x.write(7);
        sixty(x);
        Checks.equal("sixty again", 60, x.count(2));
        x.write(59);
        Checks.equal("one behind sixty that are written", 1, x.entry(0, 1, 1, 0, 1));
    }

    private static void behindARefusedWrite() {
        LinePrograms x = new LinePrograms();
        x.entry(100, 1, 1, 0, 1);
        Checks.refused("write", IllegalArgumentException.class, () -> x.write(99));
        Checks.refused("the same address", IllegalArgumentException.class, () -> x.entry(100, 1, 1, 0, 1));
        Checks.equal("the next one", 2, x.entry(101, 1, 1, 0, 1));
    }

    private static void onlyTheTableChanges() {
        LinePrograms x = Checks.program(1, 0, 1, 1);
        x.run();
        x.entry(5, 2, 3, 4, 0);
        Checks.equal("the program", Checks.list(1, 0, 1, 1), Checks.bytesOf(x));
        Checks.equal("rows", 2, x.count(1));
        Checks.equal("row 0", Checks.list(0, 1, 1, 0, 1, 0, 0), Checks.rowOf(x, 0));
    }
}
