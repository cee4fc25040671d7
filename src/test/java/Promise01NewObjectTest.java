import java.util.NoSuchElementException;

public final class Promise01NewObjectTest {
    public static void main(String[] args) {
        emptyProgram();
        noRows();
        noEntries();
        firstHeader();
        firstHeaderInATable();
        objectsAreApart();
        Checks.finish();
    }

    private static void emptyProgram() {
        LinePrograms x = new LinePrograms();
        Checks.equal("bytes", 0, x.count(0));
        Checks.equal("byteAt(0)", -1, x.byteAt(0));
        Checks.equal("clear", 0, x.clear());
        Checks.equal("run", 0, x.run());
        Checks.equal("the first put", 1, x.put(9));
    }

    private static void noRows() {
        LinePrograms x = new LinePrograms();
        Checks.equal("rows", 0, x.count(1));
        Checks.equal("find(0)", -1, x.find(0));
        Checks.refused("row(0, 0)", IndexOutOfBoundsException.class, () -> x.row(0, 0));
    }

    private static void noEntries() {
        LinePrograms x = new LinePrograms();
        Checks.equal("entries", 0, x.count(2));
        Checks.refused("write(0)", NoSuchElementException.class, () -> x.write(0));
        Checks.equal("the first entry", 1, x.entry(0, 0, 0, 0, 0));
    }

    // 12 reads a number, 13 does not: BASE; 26 and 27 are an address apart: RANGE; 8 adds 17: STEP.
    private static void firstHeader() {
        LinePrograms x = Checks.program(12, 77, 3, 9, 13, 26, 27, 8, 1, 0, 1, 1);
        Checks.equal("run", 5, x.run());
        Checks.equal("13", Checks.list(0, 1, 5, 0, 1, 0, 0), Checks.rowOf(x, 0));
        Checks.equal("26", Checks.list(0, 1, 13, 0, 1, 0, 0), Checks.rowOf(x, 1));
        Checks.equal("27", Checks.list(1, 1, 8, 0, 1, 0, 0), Checks.rowOf(x, 2));
        Checks.equal("8", Checks.list(18, 1, 8, 0, 1, 0, 0), Checks.rowOf(x, 3));
    }

    private static void firstHeaderInATable() {
        Tables.written("a table with the first header", Tables.entries(0, 1, 9, 0, 1, 17, 1, 8, 0, 1), 17,
                Tables.start(26, 255, 0, 1, 1));
    }

    private static void objectsAreApart() {
        LinePrograms x = new LinePrograms();
        LinePrograms y = new LinePrograms();
        x.put(1);
        x.entry(1, 1, 1, 1, 1);
        x.header(10, 1, 0, 0);
        Checks.equal("bytes of the other", 0, y.count(0));
        Checks.equal("entries of the other", 0, y.count(2));
        Checks.putAll(y, 0, 1, 1);
        y.run();
        Checks.equal("START of the other", 1, y.row(0, 4));
        Checks.equal("rows of the one", 0, x.count(1));
    }
}
