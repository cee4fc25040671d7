import java.util.NoSuchElementException;
import java.util.function.Consumer;

/** Tables that are not written: they stay then, and the program. */
public final class Promise10RefusalsTest {
    private static final int MAX = Integer.MAX_VALUE;
    private static final int MIN = Integer.MIN_VALUE;
    private static final int LAST = 5800;

    public static void main(String[] args) {
        noEntries();
        endBelow();
        moreThanSixHundred();
        farMoreThanSixHundred();
        endIsLookedAtFirst();
        behindARefusal();
        Checks.finish();
    }

    /** A program, and the rows of another one. */
    private static void some(LinePrograms x) {
        Checks.putAll(x, 2, 5, 1, 2, 1, 0, 1, 1);
        x.run();
        x.clear();
        Checks.putAll(x, 7, 8, 9);
    }

    private static void noEntries() {
        for (int end : Checks.list(0, 1, MAX, -1, MIN)) {
            Twins.refused("write(" + end + ") of nothing", NoSuchElementException.class,
                    Promise10RefusalsTest::some, x -> x.write(end));
        }
        Twins.refused("write of a table that is written", NoSuchElementException.class, x -> {
            x.entry(5, 1, 1, 0, 1);
            x.write(5);
        }, x -> x.write(5));
        Twins.refused("write behind a refused entry", NoSuchElementException.class, x -> {
            Checks.thrownBy(() -> x.entry(5, 1, 1, 0, 2));
        }, x -> x.write(5));
    }

    private static void endBelow() {
        Consumer<LinePrograms> two = x -> {
            some(x);
            x.header(11, 9, -3, 0);
            Tables.give(x, 5, 1, 1, 0, 1, 9, 2, 3, 4, 0);
        };
        for (int end : Checks.list(8, 6, 5, 4, 0, -1, MIN)) {
            Twins.refused("write(" + end + ") below the last address", IllegalArgumentException.class, two,
                    x -> x.write(end));
        }
        Twins.refused("write(-1) below 0", IllegalArgumentException.class, x -> x.entry(0, 1, 1, 0, 1),
                x -> x.write(-1));
        Twins.refused("write below the greatest", IllegalArgumentException.class, x -> x.entry(MAX, 1, 1, 0, 1),
                x -> x.write(MAX - 1));
        LinePrograms x = new LinePrograms();
        Tables.give(x, 5, 1, 1, 0, 1, 9, 1, 1, 0, 1);
        Checks.equal("write(9)", 12, x.write(9));
    }

    private static void moreThanSixHundred() {
        written("598 bytes", LAST, 598);
        written("600 bytes", LAST + 1, 600);
        written("600 bytes, the most for one byte", LAST + 127, 600);
        tooLong("601 bytes", LAST + 128);
        tooLong("601 bytes, the most for two bytes", LAST + 16383);
        tooLong("602 bytes", LAST + 16384);
        tooLong("604 bytes", MAX);
        // One entry more, of a byte: 599 in all, and 601 with an END of its own.
        LinePrograms x = new LinePrograms();
        Tables.giveAlmostTooMuch(x);
        x.entry(LAST + 1, 2, 101, 1, 1);
        Checks.refused("601 bytes with sixty entries", IllegalStateException.class, () -> x.write(LAST + 2));
        Checks.equal("599 bytes with sixty entries", 599, x.write(LAST + 1));
        Checks.equal("run of 599 bytes", 61, x.run());
    }

    private static void written(String what, int end, int due) {
        LinePrograms x = new LinePrograms();
        Tables.giveAlmostTooMuch(x);
        Checks.equal("write of " + what, due, x.write(end));
        Checks.equal("bytes", due, x.count(0));
        Checks.equal("the last byte", 1, x.byteAt(due - 1));
        Checks.equal("none behind it", -1, x.byteAt(due));
        Checks.equal("entries", 0, x.count(2));
        Checks.equal("run", 60, x.run());
        Checks.equal("the last entry", Checks.list(LAST, 2, 101, 1, 1, 0, 0), Checks.rowOf(x, 58));
        Checks.equal("the END", Checks.list(end, 2, 101, 1, 1, 0, 1), Checks.rowOf(x, 59));
    }

    private static void tooLong(String what, int end) {
        Twins.refused("write of " + what, IllegalStateException.class, x -> {
            some(x);
            Tables.giveAlmostTooMuch(x);
        }, x -> x.write(end));
        LinePrograms x = new LinePrograms();
        some(x);
        Tables.giveAlmostTooMuch(x);
        Checks.refused("write of " + what, IllegalStateException.class, () -> x.write(end));
        Checks.equal("the program stays", Checks.list(7, 8, 9), Checks.bytesOf(x));
        Checks.equal("the table stays", 59, x.count(2));
        Checks.equal("and can be written", 598, x.write(LAST));
    }

    // 60 entries, the longest there are: 600 bytes are full long before the last of them.
    private static void longest(LinePrograms x) {
        for (int i = 0; i < 60; i++) {
            x.entry(30000000 * i, MAX - i, i % 2 == 0 ? MAX : 0, MAX - i, i % 2);
        }
    }

    private static void farMoreThanSixHundred() {
        Consumer<LinePrograms> before = x -> {
            some(x);
            longest(x);
        };
        Twins.refused("write of the longest table", IllegalStateException.class, before, x -> x.write(MAX));
        Twins.refused("write of the longest table, nearer", IllegalStateException.class, before,
                x -> x.write(30000000 * 59));
        // What a refused write has tried may not show in a shorter program behind it.
        LinePrograms x = new LinePrograms();
        longest(x);
        Checks.refused("write", IllegalStateException.class, () -> x.write(MAX));
        Checks.equal("bytes", 0, x.count(0));
        Checks.equal("byteAt(0)", -1, x.byteAt(0));
        Checks.putAll(x, 0, 1, 1);
        Checks.equal("the bytes", Checks.list(0, 1, 1), Checks.bytesOf(x));
        Checks.equal("run", 1, x.run());
    }

    private static void endIsLookedAtFirst() {
        Twins.refused("write below the last address, too long", IllegalArgumentException.class, x -> {
            some(x);
            longest(x);
        }, x -> x.write(30000000 * 59 - 1));
        Twins.refused("write below 0 of nothing", NoSuchElementException.class, x -> { }, x -> x.write(-1));
    }

    private static void behindARefusal() {
        LinePrograms x = new LinePrograms();
        Tables.give(x, 5, 1, 1, 0, 1);
        x.write(5);
        Tables.giveAlmostTooMuch(x);
        Checks.refused("601 bytes behind another table", IllegalStateException.class, () -> x.write(LAST + 128));
        Checks.equal("the written program stays", Checks.list(0, 5, 2, 5, 0, 0, 0, 18, 0, 1, 1), Checks.bytesOf(x));
        Checks.equal("run", 2, x.run());
        Checks.equal("598 bytes behind a refusal", 598, x.write(LAST));
    }
}
