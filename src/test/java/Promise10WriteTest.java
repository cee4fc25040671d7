import java.util.NoSuchElementException;

public final class Promise10WriteTest {
    private static final int MAX = Integer.MAX_VALUE;

    public static void main(String[] args) {
        starts();
        registers();
        lines();
        specials();
        numbers();
        ends();
        severalEntries();
        otherHeaders();
        refusals();
        tooLong();
        tooLongBehindAnother();
        behindIt();
        Checks.finish();
    }

    private static void starts() {
        written("address 0", entries(0, 1, 1, 0, 1), 0, 0, 5, 2, 0, 0, 0, 0, 18, 0, 1, 1);
        written("four bytes", entries(0x04030201, 1, 1, 0, 1), 0x04030201, 0, 5, 2, 1, 2, 3, 4, 18, 0, 1, 1);
        written("bytes above 127", entries(0x70ff80fe, 1, 1, 0, 1), 0x70ff80fe,
                0, 5, 2, 254, 128, 255, 112, 18, 0, 1, 1);
        written("the greatest", entries(MAX, 1, 1, 0, 1), MAX, 0, 5, 2, 255, 255, 255, 127, 18, 0, 1, 1);
    }

    private static void registers() {
        written("another file", entries(0, 2, 1, 0, 1), 0, start(4, 2, 18, 0, 1, 1));
        written("file 0", entries(0, 0, 1, 0, 1), 0, start(4, 0, 18, 0, 1, 1));
        written("another column", entries(0, 1, 1, 9, 1), 0, start(5, 9, 18, 0, 1, 1));
        written("another statement", entries(0, 1, 1, 0, 0), 0, start(6, 18, 0, 1, 1));
        written("all, in their order", entries(0, 7, 99, 8, 0), 0, start(4, 7, 5, 8, 6, 3, 226, 0, 18, 0, 1, 1));
        written("only what is another one than before", entries(0, 7, 1, 8, 0, 1, 7, 1, 8, 0, 2, 1, 1, 0, 1), 2,
                start(4, 7, 5, 8, 6, 18, 32, 4, 1, 5, 0, 6, 32, 0, 1, 1));
    }

    private static void lines() {
        written("LOW", entries(0, 1, 11, 0, 1, 1, 1, 6, 0, 1), 1, start(3, 10, 18, 27, 0, 1, 1));
        written("LOW - 1", entries(0, 1, 11, 0, 1, 1, 1, 5, 0, 1), 1, start(3, 10, 18, 3, 122, 32, 0, 1, 1));
        written("LOW + RANGE - 1", entries(0, 1, 9, 0, 1), 0, start(26, 0, 1, 1));
        written("LOW + RANGE", entries(0, 1, 10, 0, 1), 0, start(3, 9, 18, 0, 1, 1));
        written("the greatest up and down", entries(0, 1, MAX, 0, 1, 1, 1, 0, 0, 1), 1,
                start(3, 254, 255, 255, 255, 7, 18, 3, 129, 128, 128, 128, 120, 32, 0, 1, 1));
    }

    // With 13, 14, -5: the byte is 13 + l + 5 + 14 * a, and STEP is 17.
    private static void specials() {
        written("byte 255", entries(0, 1, 1, 0, 1, 17, 1, 0, 0, 1), 17, start(18, 255, 0, 1, 1));
        written("one more line", entries(0, 1, 1, 0, 1, 17, 1, 1, 0, 1), 17, start(18, 8, 18, 0, 1, 1));
        written("STEP and l 8", entries(0, 1, 1, 0, 1, 17, 1, 9, 0, 1), 17, start(18, 8, 26, 0, 1, 1));
        written("one more address", entries(0, 1, 1, 0, 1, 18, 1, 0, 0, 1), 18, start(18, 8, 31, 0, 1, 1));
        written("byte 255 behind 8", entries(0, 1, 1, 0, 1, 34, 1, 0, 0, 1), 34, start(18, 8, 255, 0, 1, 1));
        written("beyond 8", entries(0, 1, 1, 0, 1, 34, 1, 1, 0, 1), 34, start(18, 2, 34, 18, 0, 1, 1));
        written("beyond 8, l stays", entries(0, 1, 1, 0, 1, 34, 1, 5, 0, 1), 34, start(18, 2, 34, 22, 0, 1, 1));
        written("16 and the greatest l", entries(0, 1, 1, 0, 1, 16, 1, 9, 0, 1), 16, start(18, 250, 0, 1, 1));
        written("l told by 3, then 8", entries(0, 1, 1, 0, 1, 30, 1, 40, 0, 1), 30,
                start(18, 3, 39, 8, 200, 0, 1, 1));
        written("l told by 3, then 2", entries(0, 1, 1, 0, 1, 99, 1, 40, 0, 1), 99,
                start(18, 3, 39, 2, 99, 18, 0, 1, 1));
        written("the greatest address", entries(0, 1, 1, 0, 1, MAX, 1, 1, 0, 1), MAX,
                start(18, 2, 255, 255, 255, 255, 7, 18, 0, 1, 1));
    }

    private static void numbers() {
        int[] edges = {127, 128, 16383, 16384, 2097151, 2097152, 268435455, 268435456, MAX};
        int[][] bytes = {{127}, {128, 1}, {255, 127}, {128, 128, 1}, {255, 255, 127}, {128, 128, 128, 1},
            {255, 255, 255, 127}, {128, 128, 128, 128, 1}, {255, 255, 255, 255, 7}};
        for (int i = 0; i < edges.length; i++) {
            int[] number = bytes[i];
            written("file " + edges[i], entries(0, edges[i], 1, 0, 1), 0,
                    start(Checks.joined(Checks.list(4), number, Checks.list(18, 0, 1, 1))));
            written("column " + edges[i], entries(0, 1, 1, edges[i], 1), 0,
                    start(Checks.joined(Checks.list(5), number, Checks.list(18, 0, 1, 1))));
            written("end " + edges[i], entries(0, 1, 1, 0, 1), edges[i],
                    start(Checks.joined(Checks.list(18, 2), number, Checks.list(0, 1, 1))));
        }
        int[] up = {63, 64, 8191, 8192, 1048575, 1048576, 134217727, 134217728};
        int[][] upBytes = {{63}, {192, 0}, {255, 63}, {128, 192, 0}, {255, 255, 63}, {128, 128, 192, 0},
            {255, 255, 255, 63}, {128, 128, 128, 192, 0}};
        int[][] downBytes = {{65}, {64}, {129, 64}, {128, 64}, {129, 128, 64}, {128, 128, 64},
            {129, 128, 128, 64}, {128, 128, 128, 64}};
        for (int i = 0; i < up.length; i++) {
            written("line up and down " + up[i], entries(0, 1, 1 + up[i], 0, 1, 1, 1, 1, 0, 1), 1,
                    start(Checks.joined(Checks.list(3), upBytes[i], Checks.list(18, 3), downBytes[i],
                            Checks.list(32, 0, 1, 1))));
        }
        written("line down 65", entries(0, 1, 66, 0, 1, 1, 1, 1, 0, 1), 1,
                start(3, 193, 0, 18, 3, 191, 127, 32, 0, 1, 1));
    }

    private static void ends() {
        written("at the last address", entries(5, 1, 1, 0, 1), 5, 0, 5, 2, 5, 0, 0, 0, 18, 0, 1, 1);
        written("one behind it", entries(5, 1, 1, 0, 1), 6, 0, 5, 2, 5, 0, 0, 0, 18, 2, 1, 0, 1, 1);
        written("never by 8", entries(5, 1, 1, 0, 1), 22, 0, 5, 2, 5, 0, 0, 0, 18, 2, 17, 0, 1, 1);
    }

    private static void severalEntries() {
        written("the addresses are told from the one before",
                entries(100, 1, 1, 0, 1, 101, 1, 2, 0, 1, 103, 1, 1, 0, 1, 106, 1, 1, 0, 1), 110,
                0, 5, 2, 100, 0, 0, 0, 18, 33, 45, 60, 2, 4, 0, 1, 1);
    }

    private static void otherHeaders() {
        LinePrograms x = new LinePrograms();
        x.header(20, 30, -20, 0);
        give(x, entries(0, 1, 30, 0, 0, 7, 1, 15, 0, 1, 14, 1, 21, 0, 1));
        Checks.equal("write with 20, 30, -20, 0", 17, x.write(14));
        Checks.equal("the bytes with 20, 30, -20, 0",
                start(3, 29, 40, 6, 235, 8, 46, 0, 1, 1), Checks.bytesOf(x));
        x.clear();
        x.header(10, 1, 0, 0);
        give(x, entries(0, 1, 1, 0, 0, 245, 1, 1, 0, 0, 491, 1, 1, 0, 0, 736, 1, 0, 0, 0));
        x.write(736);
        Checks.equal("the bytes with 10, 1, 0, 0",
                start(10, 255, 8, 11, 3, 127, 255, 0, 1, 1), Checks.bytesOf(x));
    }

    private static void refusals() {
        LinePrograms x = Checks.program(7, 8, 9);
        Checks.refused("no entries", NoSuchElementException.class, () -> x.write(5));
        Checks.refused("no entries, end below 0", NoSuchElementException.class, () -> x.write(-1));
        give(x, entries(5, 1, 1, 0, 1, 9, 1, 1, 0, 1));
        for (int end : Checks.list(8, 5, 0, -1, Integer.MIN_VALUE)) {
            Checks.refused("end " + end, IllegalArgumentException.class, () -> x.write(end));
        }
        Checks.equal("the program stays", Checks.list(7, 8, 9), Checks.bytesOf(x));
        Checks.equal("the table stays", 2, x.count(2));
        Checks.equal("write", 12, x.write(9));
        Checks.refused("the table is empty then", NoSuchElementException.class, () -> x.write(9));
    }

    private static void tooLong() {
        LinePrograms x = new LinePrograms();
        int last = Checks.fillAlmost(x);
        Checks.putAll(x, 7, 8, 9);
        Checks.refused("601 bytes", IllegalStateException.class, () -> x.write(last + 128));
        Checks.refused("604 bytes", IllegalStateException.class, () -> x.write(MAX));
        Checks.refused("the end is looked at first", IllegalArgumentException.class, () -> x.write(last - 1));
        Checks.equal("the program stays", Checks.list(7, 8, 9), Checks.bytesOf(x));
        Checks.equal("the table stays", 59, x.count(2));
        Checks.equal("600 bytes", 600, x.write(last + 127));
        Checks.equal("bytes", 600, x.count(0));
        Checks.equal("byteAt(595)", 2, x.byteAt(595));
        Checks.equal("byteAt(596)", 127, x.byteAt(596));
        Checks.equal("byteAt(599)", 1, x.byteAt(599));
        Checks.equal("run", 60, x.run());
        Checks.equal("the last entry", Checks.list(last, 2, 101, 1, 1, 0, 0), Checks.rowOf(x, 58));
        Checks.equal("the END", Checks.list(last + 127, 2, 101, 1, 1, 0, 1), Checks.rowOf(x, 59));
    }

    private static void tooLongBehindAnother() {
        LinePrograms x = new LinePrograms();
        give(x, entries(5, 1, 1, 0, 1));
        x.write(5);
        int last = Checks.fillAlmost(x);
        Checks.refused("601 bytes behind another table", IllegalStateException.class, () -> x.write(last + 128));
        Checks.equal("the written program stays", Checks.list(0, 5, 2, 5, 0, 0, 0, 18, 0, 1, 1), Checks.bytesOf(x));
        Checks.equal("598 bytes behind a refusal", 598, x.write(last));
    }

    private static void behindIt() {
        LinePrograms x = Checks.program(1, 1, 1, 0, 1, 1);
        x.run();
        give(x, entries(5, 1, 1, 0, 1));
        Checks.equal("write", 11, x.write(5));
        Checks.equal("bytes", 11, x.count(0));
        Checks.equal("entries", 0, x.count(2));
        Checks.equal("the rows are those of the run", 4, x.count(1));
        Checks.equal("a byte more", 12, x.put(3));
        x.clear();
        give(x, entries(2, 3, 1, 0, 1));
        x.write(2);
        Checks.equal("a second table begins anew", Checks.list(0, 5, 2, 2, 0, 0, 0, 4, 3, 18, 0, 1, 1),
                Checks.bytesOf(x));
    }

    private static int[] entries(int... values) {
        return values;
    }

    /** What begins a table at address 0, and bytes behind it. */
    private static int[] start(int... bytes) {
        return Checks.joined(Checks.list(0, 5, 2, 0, 0, 0, 0), bytes);
    }

    private static void give(LinePrograms x, int[] values) {
        for (int i = 0; i < values.length; i += 5) {
            x.entry(values[i], values[i + 1], values[i + 2], values[i + 3], values[i + 4]);
        }
    }

    private static void written(String what, int[] entries, int end, int... due) {
        LinePrograms x = new LinePrograms();
        give(x, entries);
        Checks.equal("write of " + what, due.length, x.write(end));
        Checks.equal("bytes of " + what, due, Checks.bytesOf(x));
        Checks.equal("run of " + what, entries.length / 5 + 1, x.run());
    }
}
