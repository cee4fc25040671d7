public final class Promise10WriteTest {
    private static final int MAX = Integer.MAX_VALUE;

    public static void main(String[] args) {
        firstAddresses();
        filesColumnsStatements();
        unsignedNumbers();
        signedNumbers();
        ends();
        severalEntries();
        sixtyEntries();
        theTableIsEmptyThen();
        Checks.finish();
    }

    private static void firstAddresses() {
        Tables.written("address 0", Tables.entries(0, 1, 1, 0, 1), 0, 0, 5, 2, 0, 0, 0, 0, 18, 0, 1, 1);
        Tables.written("four bytes", Tables.entries(0x04030201, 1, 1, 0, 1), 0x04030201,
                0, 5, 2, 1, 2, 3, 4, 18, 0, 1, 1);
        Tables.written("bytes above 127", Tables.entries(0x70ff80fe, 1, 1, 0, 1), 0x70ff80fe,
                0, 5, 2, 254, 128, 255, 112, 18, 0, 1, 1);
        Tables.written("the greatest", Tables.entries(MAX, 1, 1, 0, 1), MAX,
                0, 5, 2, 255, 255, 255, 127, 18, 0, 1, 1);
    }

    private static void filesColumnsStatements() {
        Tables.written("none another one", Tables.entries(0, 1, 1, 0, 1), 0, Tables.start(18, 0, 1, 1));
        Tables.written("another file", Tables.entries(0, 2, 1, 0, 1), 0, Tables.start(4, 2, 18, 0, 1, 1));
        Tables.written("file 0", Tables.entries(0, 0, 1, 0, 1), 0, Tables.start(4, 0, 18, 0, 1, 1));
        Tables.written("another column", Tables.entries(0, 1, 1, 9, 1), 0, Tables.start(5, 9, 18, 0, 1, 1));
        Tables.written("another statement", Tables.entries(0, 1, 1, 0, 0), 0, Tables.start(6, 18, 0, 1, 1));
        Tables.written("all, in their order", Tables.entries(0, 7, 99, 8, 0), 0,
                Tables.start(4, 7, 5, 8, 6, 3, 226, 0, 18, 0, 1, 1));
        Tables.written("only what is another one than before",
                Tables.entries(0, 7, 1, 8, 0, 1, 7, 1, 8, 0, 2, 1, 1, 0, 1), 2,
                Tables.start(4, 7, 5, 8, 6, 18, 32, 4, 1, 5, 0, 6, 32, 0, 1, 1));
    }

    private static void unsignedNumbers() {
        int[] edges = {127, 128, 16383, 16384, 2097151, 2097152, 268435455, 268435456, MAX};
        int[][] bytes = {{127}, {128, 1}, {255, 127}, {128, 128, 1}, {255, 255, 127}, {128, 128, 128, 1},
            {255, 255, 255, 127}, {128, 128, 128, 128, 1}, {255, 255, 255, 255, 7}};
        for (int i = 0; i < edges.length; i++) {
            int[] number = bytes[i];
            Tables.written("file " + edges[i], Tables.entries(0, edges[i], 1, 0, 1), 0,
                    Tables.start(Checks.joined(Checks.list(4), number, Checks.list(18, 0, 1, 1))));
            Tables.written("column " + edges[i], Tables.entries(0, 1, 1, edges[i], 1), 0,
                    Tables.start(Checks.joined(Checks.list(5), number, Checks.list(18, 0, 1, 1))));
            Tables.written("address " + edges[i], Tables.entries(0, 1, 1, 0, 1, edges[i], 1, 1, 0, 1), edges[i],
                    Tables.start(Checks.joined(Checks.list(18, 2), number, Checks.list(18, 0, 1, 1))));
            Tables.written("end " + edges[i], Tables.entries(0, 1, 1, 0, 1), edges[i],
                    Tables.start(Checks.joined(Checks.list(18, 2), number, Checks.list(0, 1, 1))));
        }
    }

    private static void signedNumbers() {
        int[] up = {63, 64, 8191, 8192, 1048575, 1048576, 134217727, 134217728};
        int[][] upBytes = {{63}, {192, 0}, {255, 63}, {128, 192, 0}, {255, 255, 63}, {128, 128, 192, 0},
            {255, 255, 255, 63}, {128, 128, 128, 192, 0}};
        int[][] downBytes = {{65}, {64}, {129, 64}, {128, 64}, {129, 128, 64}, {128, 128, 64},
            {129, 128, 128, 64}, {128, 128, 128, 64}};
        for (int i = 0; i < up.length; i++) {
            Tables.written("line up and down " + up[i], Tables.entries(0, 1, 1 + up[i], 0, 1, 1, 1, 1, 0, 1), 1,
                    Tables.start(Checks.joined(Checks.list(3), upBytes[i], Checks.list(18, 3), downBytes[i],
                            Checks.list(32, 0, 1, 1))));
        }
        int[] down = {65, 8193, 1048577, 134217729};
        int[][] moreBytes = {{191, 127}, {255, 191, 127}, {255, 255, 191, 127}, {255, 255, 255, 191, 127}};
        for (int i = 0; i < down.length; i++) {
            LinePrograms x = new LinePrograms();
            Tables.give(x, 0, 1, down[i], 0, 1, 1, 1, 0, 0, 1);
            int size = x.write(1);
            int[] got = java.util.Arrays.copyOfRange(Checks.bytesOf(x), size - 5 - moreBytes[i].length, size);
            Checks.equal("line down " + down[i],
                    Checks.joined(Checks.list(3), moreBytes[i], Checks.list(32, 0, 1, 1)), got);
        }
        Tables.written("from 1 to the greatest, and to 0", Tables.entries(0, 1, MAX, 0, 1, 1, 1, 0, 0, 1), 1,
                Tables.start(3, 254, 255, 255, 255, 7, 18, 3, 129, 128, 128, 128, 120, 32, 0, 1, 1));
        Tables.written("from 0 to the greatest", Tables.entries(0, 1, 0, 0, 1, 1, 1, MAX, 0, 1), 1,
                Tables.start(17, 3, 255, 255, 255, 255, 7, 32, 0, 1, 1));
    }

    private static void ends() {
        Tables.written("at the last address", Tables.entries(5, 1, 1, 0, 1), 5, 0, 5, 2, 5, 0, 0, 0, 18, 0, 1, 1);
        Tables.written("one behind it", Tables.entries(5, 1, 1, 0, 1), 6,
                0, 5, 2, 5, 0, 0, 0, 18, 2, 1, 0, 1, 1);
        Tables.written("STEP behind it, never by 8", Tables.entries(5, 1, 1, 0, 1), 22,
                0, 5, 2, 5, 0, 0, 0, 18, 2, 17, 0, 1, 1);
        Tables.written("from the last entry on", Tables.entries(5, 1, 1, 0, 1, 6, 1, 1, 0, 1), 9,
                0, 5, 2, 5, 0, 0, 0, 18, 32, 2, 3, 0, 1, 1);
        Tables.written("from 0 to the greatest", Tables.entries(0, 1, 1, 0, 1), MAX,
                Tables.start(18, 2, 255, 255, 255, 255, 7, 0, 1, 1));
        Tables.written("at the greatest", Tables.entries(MAX, 1, 1, 0, 1), MAX,
                0, 5, 2, 255, 255, 255, 127, 18, 0, 1, 1);
    }

    private static void severalEntries() {
        Tables.written("the addresses are told from the one before",
                Tables.entries(100, 1, 1, 0, 1, 101, 1, 2, 0, 1, 103, 1, 1, 0, 1, 106, 1, 1, 0, 1), 110,
                0, 5, 2, 100, 0, 0, 0, 18, 33, 45, 60, 2, 4, 0, 1, 1);
    }

    private static void sixtyEntries() {
        int[] entries = new int[0];
        for (int i = 0; i < 60; i++) {
            entries = Checks.joined(entries, Checks.list(i, 1, 1 + i, 0, 1));
        }
        Tables.written("sixty entries", entries, 59,
                Tables.start(Checks.joined(Checks.list(18), Checks.repeated(59, 33), Checks.list(0, 1, 1))));
    }

    private static void theTableIsEmptyThen() {
        LinePrograms x = Checks.program(1, 1, 1, 0, 1, 1);
        x.run();
        Tables.give(x, 5, 1, 1, 0, 1);
        Checks.equal("write", 11, x.write(5));
        Checks.equal("bytes", 11, x.count(0));
        Checks.equal("entries", 0, x.count(2));
        Checks.equal("the rows are those of the run", 4, x.count(1));
        Checks.equal("row 3", Checks.list(0, 1, 1, 0, 1, 0, 1), Checks.rowOf(x, 3));
        Checks.refused("write again", java.util.NoSuchElementException.class, () -> x.write(5));
        Checks.equal("a byte more", 12, x.put(3));
        Tables.give(x, 2, 3, 1, 0, 1);
        Checks.equal("write of a second table", 13, x.write(2));
        Checks.equal("a second table begins anew", Checks.list(0, 5, 2, 2, 0, 0, 0, 4, 3, 18, 0, 1, 1),
                Checks.bytesOf(x));
    }
}
