public final class Promise04ClearTest {
    public static void main(String[] args) {
        LinePrograms x = new LinePrograms();
        Checks.equal("clear of nothing", 0, x.clear());
        Checks.putAll(x, 1, 0, 1, 1);
        x.run();
        x.entry(5, 1, 1, 1, 1);
        x.header(20, 30, -20, 0);
        Checks.equal("clear", 4, x.clear());
        Checks.equal("clear again", 0, x.clear());
        Checks.equal("bytes", 0, x.count(0));
        Checks.equal("byteAt(0)", -1, x.byteAt(0));
        Checks.equal("rows stay", 2, x.count(1));
        Checks.equal("entries stay", 1, x.count(2));
        Checks.putAll(x, 0, 1, 1);
        Checks.equal("the new bytes", Checks.list(0, 1, 1), Checks.bytesOf(x));
        Checks.equal("run", 1, x.run());
        Checks.equal("the header stays", 0, x.row(0, 4));
        Checks.finish();
    }
}
