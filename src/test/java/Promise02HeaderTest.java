import java.util.HashSet;
import java.util.Set;

public final class Promise02HeaderTest {
    public static void main(String[] args) {
        base();
        range();
        low();
        start();
        lowAndRange();
        farOff();
        severalWrong();
        everyHeader();
        stepIsRoundedDown();
        onlyTheHeaderChanges();
        Checks.finish();
    }

    private static void base() {
        ruledOut(9, 14, -5, 1);
        allowed(10, 14, -5, 1);
        allowed(20, 14, -5, 1);
        ruledOut(21, 14, -5, 1);
    }

    private static void range() {
        ruledOut(13, -1, 0, 1);
        ruledOut(13, 0, 0, 1);
        allowed(13, 1, 0, 1);
        allowed(13, 30, -5, 1);
        ruledOut(13, 31, -5, 1);
    }

    private static void low() {
        ruledOut(13, 30, -21, 1);
        allowed(13, 30, -20, 0);
        allowed(13, 14, 0, 0);
        ruledOut(13, 14, 1, 1);
    }

    private static void start() {
        ruledOut(13, 14, -5, -1);
        allowed(13, 14, -5, 0);
        allowed(13, 14, -5, 1);
        ruledOut(13, 14, -5, 2);
    }

    private static void lowAndRange() {
        ruledOut(13, 4, -5, 1);
        ruledOut(13, 5, -5, 1);
        allowed(13, 6, -5, 1);
        ruledOut(13, 20, -20, 1);
        allowed(13, 21, -20, 0);
        ruledOut(13, 1, -1, 1);
        allowed(13, 2, -1, 1);
    }

    private static void farOff() {
        int least = Integer.MIN_VALUE;
        int greatest = Integer.MAX_VALUE;
        for (int far : Checks.list(least, greatest)) {
            ruledOut(far, 14, -5, 1);
            ruledOut(13, far, -5, 1);
            ruledOut(13, 14, far, 1);
            ruledOut(13, 14, -5, far);
        }
        ruledOut(13, least, least, 1);
        ruledOut(13, greatest, greatest, 1);
        ruledOut(13 + 256, 14, -5, 1);
        ruledOut(13, 14, -5, 257);
    }

    private static void severalWrong() {
        ruledOut(9, 31, -5, 1);
        ruledOut(21, 0, 1, 2);
        ruledOut(0, 0, 0, 0);
    }

    private static void allowed(int base, int range, int low, int start) {
        LinePrograms x = new LinePrograms();
        Checks.isTrue("header " + base + " " + range + " " + low + " " + start, x.header(base, range, low, start));
        inForce(x, base, range, low, start);
    }

    // Once behind a new object, once behind another header: neither may change, in no part.
    private static void ruledOut(int base, int range, int low, int start) {
        String what = "header " + base + " " + range + " " + low + " " + start;
        Twins.answered(what, 0, x -> x.entry(7, 2, 3, 4, 0), x -> x.header(base, range, low, start) ? 1 : 0);
        Twins.answered(what, 0, x -> {
            Checks.putAll(x, 1, 2, 5, 0, 1, 1);
            x.run();
            x.entry(7, 2, 3, 4, 0);
            x.header(11, 9, -3, 0);
        }, x -> x.header(base, range, low, start) ? 1 : 0);
    }

    private static void everyHeader() {
        Set<String> all = new HashSet<>();
        for (int base = 10; base <= 20; base++) {
            for (int range = 1; range <= 30; range++) {
                for (int low = -20; low <= 0; low++) {
                    if (low + range > 0) {
                        all.add(base + " " + range + " " + low + " " + 0);
                        all.add(base + " " + range + " " + low + " " + 1);
                    }
                }
            }
        }
        for (int base = 8; base <= 22; base++) {
            for (int range = -1; range <= 32; range++) {
                for (int low = -22; low <= 2; low++) {
                    for (int start = -1; start <= 2; start++) {
                        boolean due = all.contains(base + " " + range + " " + low + " " + start);
                        oneOfAll(base, range, low, start, due);
                    }
                }
            }
        }
    }

    private static void oneOfAll(int base, int range, int low, int start, boolean due) {
        LinePrograms x = new LinePrograms();
        boolean got = x.header(base, range, low, start);
        Checks.equal("header " + base + " " + range + " " + low + " " + start, due ? 1 : 0, got ? 1 : 0);
        if (due && got) {
            inForce(x, base, range, low, start);
        }
    }

    /** One row for each thing that the header decides. */
    private static void inForce(LinePrograms x, int base, int range, int low, int start) {
        Checks.putAll(x, 3, 60, base, base + range - 1, base + range, 8, 255, 0, 1, 1);
        String header = "with header " + base + " " + range + " " + low + " " + start + " ";
        Checks.equal(header + "run", 5, x.run());
        int line = 61 + low;
        Checks.equal(header + "BASE", Checks.list(0, 1, line, 0, start, 0, 0), Checks.rowOf(x, 0));
        line += low + range - 1;
        Checks.equal(header + "RANGE - 1", Checks.list(0, 1, line, 0, start, 0, 0), Checks.rowOf(x, 1));
        line += low;
        Checks.equal(header + "RANGE", Checks.list(1, 1, line, 0, start, 0, 0), Checks.rowOf(x, 2));
        int step = (255 - base) / range;
        line += low + (255 - base) % range;
        Checks.equal(header + "255", Checks.list(1 + 2 * step, 1, line, 0, start, 0, 0), Checks.rowOf(x, 3));
        if (base > 10) {
            readsANumber(x, header, base - 1);
        }
    }

    private static void readsANumber(LinePrograms x, String header, int code) {
        x.clear();
        Checks.putAll(x, code, 255, 1, 0, 1, 1);
        Checks.equal(header + "BASE - 1", 1, x.run());
    }

    // 240 / 30, 239 / 30; 245 / 1; 244 / 2; 243 / 2; 235 / 30.
    private static void stepIsRoundedDown() {
        step(15, 30, 8);
        step(16, 30, 7);
        step(10, 1, 245);
        step(11, 2, 122);
        step(12, 2, 121);
        step(20, 30, 7);
        step(13, 14, 17);
    }

    private static void step(int base, int range, int due) {
        LinePrograms x = Checks.program(8, 0, 1, 1);
        x.header(base, range, 0, 1);
        x.run();
        Checks.equal("STEP with " + base + " and " + range, due, x.row(0, 0));
    }

    private static void onlyTheHeaderChanges() {
        LinePrograms x = Checks.program(1, 0, 1, 1);
        x.run();
        x.entry(5, 1, 1, 1, 1);
        x.header(20, 30, -20, 0);
        Checks.equal("the bytes", Checks.list(1, 0, 1, 1), Checks.bytesOf(x));
        Checks.equal("rows", 2, x.count(1));
        Checks.equal("entries", 1, x.count(2));
        Checks.equal("a row that was made before", 1, x.row(0, 4));
        x.run();
        Checks.equal("a row that is made behind it", 0, x.row(0, 4));
        x.write(5);
        Checks.equal("a table that is written behind it", Checks.list(0, 5, 2, 5, 0, 0, 0, 5, 1, 6, 40, 0, 1, 1),
                Checks.bytesOf(x));
    }
}
