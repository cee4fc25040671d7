public final class Promise04ClearTest {
    public static void main(String[] args) {
        Twins.answered("clear of nothing", 0, x -> x.entry(5, 1, 1, 1, 1), LinePrograms::clear);
        ofSome();
        ofOne();
        ofAll();
        Checks.finish();
    }

    private static void ofSome() {
        LinePrograms x = Checks.program(1, 0, 1, 1);
        x.run();
        x.entry(5, 1, 1, 1, 1);
        x.header(20, 30, -20, 0);
        Checks.equal("clear", 4, x.clear());
        Checks.equal("clear again", 0, x.clear());
        Checks.equal("bytes", 0, x.count(0));
        Checks.equal("byteAt(0)", -1, x.byteAt(0));
        Checks.equal("rows stay", 2, x.count(1));
        Checks.equal("row 1 stays", Checks.list(0, 1, 1, 0, 1, 0, 1), Checks.rowOf(x, 1));
        Checks.equal("entries stay", 1, x.count(2));
        Checks.putAll(x, 0, 1, 1);
        Checks.equal("the new bytes", Checks.list(0, 1, 1), Checks.bytesOf(x));
        Checks.equal("run", 1, x.run());
        Checks.equal("the header stays", 0, x.row(0, 4));
    }

    private static void ofOne() {
        LinePrograms x = Checks.program(0);
        Checks.equal("clear of one byte", 1, x.clear());
        Checks.equal("run of an empty program", 0, x.run());
    }

    private static void ofAll() {
        LinePrograms x = new LinePrograms();
        Tables.fillProgram(x, 7, 9);
        Checks.equal("clear of 600 bytes", 600, x.clear());
        Checks.equal("bytes", 0, x.count(0));
        Checks.equal("byteAt(0)", -1, x.byteAt(0));
        Checks.equal("byteAt(599)", -1, x.byteAt(599));
        Checks.equal("clear again", 0, x.clear());
        Tables.fillProgram(x, 8, 10);
        Checks.equal("600 bytes again", 600, x.count(0));
        Checks.equal("the last one", 10, x.byteAt(599));
    }
}
