public final class Promise06RunTest {
    public static void main(String[] args) {
        instructions();
        behindAnEnd();
        readForNothing();
        meaningNothing();
        everySpecialOne();
        otherHeaders();
        theLatestRun();
        onlyTheRowsChange();
        Checks.finish();
    }

    private static void instructions() {
        Runs.rows("nothing", new int[0]);
        Runs.rows("END", Runs.end(), 0, 1, 1, 0, 1, 0, 1);
        Runs.rows("1", Runs.then(1), 0, 1, 1, 0, 1, 0, 0, 0, 1, 1, 0, 1, 0, 1);
        Runs.rows("2", Runs.then(2, 129, 1), 129, 1, 1, 0, 1, 0, 1);
        Runs.rows("2, added", Runs.then(2, 5, 2, 6), 11, 1, 1, 0, 1, 0, 1);
        Runs.rows("2 with 0", Runs.then(2, 0), 0, 1, 1, 0, 1, 0, 1);
        Runs.rows("3", Runs.then(3, 9, 3, 126), 0, 1, 8, 0, 1, 0, 1);
        Runs.rows("3 with 0", Runs.then(3, 0), 0, 1, 1, 0, 1, 0, 1);
        Runs.rows("4", Runs.then(4, 129, 1), 0, 129, 1, 0, 1, 0, 1);
        Runs.rows("4, not added", Runs.then(4, 5, 4, 0), 0, 0, 1, 0, 1, 0, 1);
        Runs.rows("5", Runs.then(5, 129, 1), 0, 1, 1, 129, 1, 0, 1);
        Runs.rows("5, not added", Runs.then(5, 5, 5, 3), 0, 1, 1, 3, 1, 0, 1);
        Runs.rows("6", Runs.then(6), 0, 1, 1, 0, 0, 0, 1);
        Runs.rows("6 twice", Runs.then(6, 6), 0, 1, 1, 0, 1, 0, 1);
        Runs.rows("6 stays behind a row", Runs.then(6, 1), 0, 1, 1, 0, 0, 0, 0, 0, 1, 1, 0, 0, 0, 1);
        Runs.rows("7, kept by an END", Runs.then(7), 0, 1, 1, 0, 1, 1, 1);
        Runs.rows("7 twice", Runs.then(7, 7), 0, 1, 1, 0, 1, 1, 1);
        Runs.rows("7 and 1", Runs.then(7, 1), 0, 1, 1, 0, 1, 1, 0, 0, 1, 1, 0, 1, 0, 1);
        Runs.rows("7 and a special one", Runs.then(7, 18), 0, 1, 1, 0, 1, 1, 0, 0, 1, 1, 0, 1, 0, 1);
        Runs.rows("8", Runs.then(8), 17, 1, 1, 0, 1, 0, 1);
        Runs.rows("9", Runs.then(9, 1, 2), 513, 1, 1, 0, 1, 0, 1);
        Runs.rows("9, added", Runs.then(2, 3, 9, 1, 2), 516, 1, 1, 0, 1, 0, 1);
        Runs.rows("9, the least", Runs.then(9, 0, 0), 0, 1, 1, 0, 1, 0, 1);
        Runs.rows("9, the greatest low one", Runs.then(9, 255, 0), 255, 1, 1, 0, 1, 0, 1);
        Runs.rows("9, the greatest", Runs.then(9, 255, 255), 65535, 1, 1, 0, 1, 0, 1);
        Runs.rows("17", Runs.then(17), 0, 1, 0, 0, 1, 0, 0, 0, 1, 0, 0, 1, 0, 1);
        Runs.rows("26", Runs.then(26), 0, 1, 9, 0, 1, 0, 0, 0, 1, 9, 0, 1, 0, 1);
        Runs.rows("32", Runs.then(32), 1, 1, 1, 0, 1, 0, 0, 1, 1, 1, 0, 1, 0, 1);
        Runs.rows("255", Runs.then(255), 17, 1, 0, 0, 1, 0, 0, 17, 1, 0, 0, 1, 0, 1);
        Runs.rows("0 with 2", Runs.then(2, 9, 0, 5, 2, 1, 2, 3, 4), 0x04030201, 1, 1, 0, 1, 0, 1);
        Runs.rows("0 with 2, the least", Runs.then(2, 9, 0, 5, 2, 0, 0, 0, 0), 0, 1, 1, 0, 1, 0, 1);
        Runs.rows("0 with 2, bytes above 127", Runs.then(0, 5, 2, 255, 128, 254, 112), 0x70fe80ff, 1, 1, 0, 1, 0, 1);
    }

    private static void behindAnEnd() {
        int[] all = {2, 7, 3, 7, 4, 7, 5, 7, 6, 7};
        Runs.rows("all anew behind an END", Checks.joined(Runs.then(all), Runs.end()),
                7, 7, 8, 7, 0, 1, 1, 0, 1, 1, 0, 1, 0, 1);
        Runs.rows("all anew behind a second END", Checks.joined(Runs.end(), Runs.then(all), Runs.then(1)),
                0, 1, 1, 0, 1, 0, 1, 7, 7, 8, 7, 0, 1, 1, 0, 1, 1, 0, 1, 0, 0, 0, 1, 1, 0, 1, 0, 1);
    }

    private static void readForNothing() {
        int[] end = {0, 1, 1, 0, 1, 0, 1};
        Runs.rows("10", Runs.then(10, 5), end);
        Runs.rows("11", Runs.then(11, 129, 130, 3), end);
        Runs.rows("12", Runs.then(12, 0), end);
        Runs.rows("13 reads none", Runs.then(3, 9, 13), 0, 1, 5, 0, 1, 0, 0, 0, 1, 5, 0, 1, 0, 1);
    }

    private static void meaningNothing() {
        int[] end = {0, 1, 1, 0, 1, 0, 1};
        for (int what = 3; what <= 255; what++) {
            Runs.rows("0 with " + what + " alone", Runs.then(0, 1, what), end);
            Runs.rows("0 with " + what, Runs.then(0, 5, what, 7, 2, 9, 1), end);
        }
        Runs.rows("0 with 128 bytes", Runs.then(Checks.joined(Checks.list(0, 128, 1, 4), Checks.repeated(127, 1))),
                end);
        int[] long300 = Checks.joined(Checks.list(0, 172, 2, 3), Checks.repeated(299, 255));
        Runs.rows("0 with 300 bytes", Runs.then(long300), end);
    }

    // 40 of them a time, from a line that is high enough for all of them.
    private static void everySpecialOne() {
        int[][] headers = {{13, 14, -5, 1}, {10, 1, 0, 0}, {20, 30, -20, 1}, {10, 21, -20, 0}, {20, 30, 0, 1},
            {15, 30, -9, 0}, {16, 7, -6, 1}};
        for (int[] h : headers) {
            for (int from = h[0]; from <= 255; from += 40) {
                specialOnes(h, from, Math.min(255, from + 39));
            }
        }
    }

    private static void specialOnes(int[] h, int from, int to) {
        LinePrograms x = new LinePrograms();
        x.header(h[0], h[1], h[2], h[3]);
        Checks.putAll(x, 3, 167, 134, 0);
        for (int b = from; b <= to; b++) {
            x.put(b);
        }
        Checks.putAll(x, 0, 1, 1);
        Checks.equal("run of " + from + " to " + to, to - from + 2, x.run());
        int address = 0;
        int line = 1 + 39 + 6 * 128;
        for (int b = from; b <= to; b++) {
            line += h[2] + (b - h[0]) % h[1];
            address += (b - h[0]) / h[1];
            Checks.equal("row of " + b, Checks.list(address, 1, line, 0, h[3], 0, 0), Checks.rowOf(x, b - from));
        }
    }

    private static void otherHeaders() {
        LinePrograms x = new LinePrograms();
        x.header(20, 30, -20, 0);
        for (int code = 10; code <= 19; code++) {
            x.clear();
            Checks.putAll(x, code, 255, 1, 1, 0, 1, 1);
            Checks.equal(code + " reads a number with BASE 20", 2, x.run());
        }
        x.clear();
        Checks.putAll(x, 19, 30, 20 + 22, 8, 255, 0, 1, 1);
        Checks.equal("run with BASE 20", 3, x.run());
        Checks.equal("42", Checks.list(0, 1, 3, 0, 0, 0, 0), Checks.rowOf(x, 0));
        Checks.equal("8 and 255", Checks.list(14, 1, 8, 0, 0, 0, 0), Checks.rowOf(x, 1));
        x.clear();
        x.header(10, 1, 0, 1);
        Checks.putAll(x, 10, 11, 8, 255, 0, 1, 1);
        Checks.equal("run with BASE 10", 4, x.run());
        Checks.equal("10", Checks.list(0, 1, 1, 0, 1, 0, 0), Checks.rowOf(x, 0));
        Checks.equal("11", Checks.list(1, 1, 1, 0, 1, 0, 0), Checks.rowOf(x, 1));
        Checks.equal("8 and 255, RANGE 1", Checks.list(491, 1, 1, 0, 1, 0, 0), Checks.rowOf(x, 2));
        x.clear();
        x.header(13, 14, -5, 0);
        Checks.putAll(x, 6, 0, 1, 1, 0, 1, 1);
        Checks.equal("run with START 0", 2, x.run());
        Checks.equal("turned", 1, x.row(0, 4));
        Checks.equal("START behind an END", 0, x.row(1, 4));
    }

    private static void theLatestRun() {
        LinePrograms x = new LinePrograms();
        x.put(1);
        Checks.refused("a first run", Runs.NO_END, x::run);
        Checks.equal("no rows behind a first run that is refused", 0, x.count(1));
        Checks.refused("row 0 then", IndexOutOfBoundsException.class, () -> x.row(0, 0));
        Checks.putAll(x, 2, 5, 1, 0, 1, 1);
        Checks.equal("run", 3, x.run());
        Checks.equal("the same again", 3, x.run());
        x.put(1);
        Checks.refused("run", Runs.NO_END, x::run);
        Checks.refused("run again", Runs.NO_END, x::run);
        Checks.equal("rows of the run before", 3, x.count(1));
        Checks.equal("row 1", Checks.list(5, 1, 1, 0, 1, 0, 0), Checks.rowOf(x, 1));
        x.clear();
        Checks.putAll(x, 0, 1, 1);
        Checks.equal("a good one behind it", 1, x.run());
        Checks.equal("its row", Checks.list(0, 1, 1, 0, 1, 0, 1), Checks.rowOf(x, 0));
        x.clear();
        Checks.equal("nothing", 0, x.run());
        Checks.equal("no rows then", 0, x.count(1));
    }

    private static void onlyTheRowsChange() {
        LinePrograms x = Checks.program(2, 9, 4, 8, 5, 7, 6, 7, 1, 0, 1, 1);
        x.header(12, 10, -2, 0);
        x.entry(3, 1, 1, 0, 0);
        Checks.equal("run", 2, x.run());
        Checks.equal("the program", Checks.list(2, 9, 4, 8, 5, 7, 6, 7, 1, 0, 1, 1), Checks.bytesOf(x));
        Checks.equal("entries", 1, x.count(2));
        x.write(3);
        Checks.equal("the table is written as ever", Checks.list(0, 5, 2, 3, 0, 0, 0, 14, 0, 1, 1),
                Checks.bytesOf(x));
    }
}
