import java.util.ArrayList;
import java.util.List;

/** When a written table takes 3, 8 or 2. */
public final class Promise10ChoicesTest {
    private static final int MAX = Integer.MAX_VALUE;

    public static void main(String[] args) {
        lines();
        addresses();
        linesAndAddresses();
        otherHeaders();
        everyHeader();
        Checks.finish();
    }

    private static void lines() {
        Tables.written("LOW", Tables.entries(0, 1, 11, 0, 1, 1, 1, 6, 0, 1), 1,
                Tables.start(3, 10, 18, 27, 0, 1, 1));
        Tables.written("LOW - 1", Tables.entries(0, 1, 11, 0, 1, 1, 1, 5, 0, 1), 1,
                Tables.start(3, 10, 18, 3, 122, 32, 0, 1, 1));
        Tables.written("LOW + RANGE - 1", Tables.entries(0, 1, 9, 0, 1), 0, Tables.start(26, 0, 1, 1));
        Tables.written("LOW + RANGE", Tables.entries(0, 1, 10, 0, 1), 0, Tables.start(3, 9, 18, 0, 1, 1));
        Tables.written("line 0 first", Tables.entries(0, 1, 0, 0, 1), 0, Tables.start(17, 0, 1, 1));
    }

    // With 13, 14, -5: the byte is 13 + l + 5 + 14 * a, and STEP is 17.
    private static void addresses() {
        second("byte 255", 17, 0, 255);
        second("256: one more line", 17, 1, 8, 18);
        second("256 + 8: the most lines", 17, 9, 8, 26);
        second("one more address", 18, 0, 8, 31);
        second("one address less, the most lines", 16, 9, 250);
        second("byte 255 behind 8", 34, 0, 8, 255);
        second("256 behind 8", 34, 1, 2, 34, 18);
        second("more than 256 behind 8, l stays", 34, 5, 2, 34, 22);
        second("one address less behind 8", 33, 9, 8, 250);
        second("one address more than 8 can do", 35, 0, 2, 35, 17);
        second("the greatest address", MAX, 1, 2, 255, 255, 255, 255, 7, 18);
        second("an address whose k is above 2^31", 153391690, 1, 2, 202, 164, 146, 73, 18);
        second("an address whose k is above 2^32", 306783379, 1, 2, 147, 201, 164, 146, 1, 18);
    }

    private static void linesAndAddresses() {
        second("l told by 3, one byte then", 16, 40, 3, 39, 242);
        second("l told by 3, 256 then", 17, 40, 3, 39, 8, 18);
        second("l told by 3, then 8", 30, 40, 3, 39, 8, 200);
        second("l told by 3, the most behind 8", 33, 40, 3, 39, 8, 242);
        second("l told by 3, 256 behind 8", 34, 40, 3, 39, 2, 34, 18);
        second("l told by 3, then 2", 99, 40, 3, 39, 2, 99, 18);
    }

    /** The bytes for a second entry, behind a first one at address 0 and line 1. */
    private static void second(String what, int address, int line, int... due) {
        Tables.written(what, Tables.entries(0, 1, 1, 0, 1, address, 1, line, 0, 1), address,
                Tables.start(Checks.joined(Checks.list(18), due, Checks.list(0, 1, 1))));
    }

    private static void otherHeaders() {
        LinePrograms x = new LinePrograms();
        x.header(20, 30, -20, 0);
        Tables.writtenBy(x, "20, 30, -20, 0", Tables.entries(0, 1, 30, 0, 0, 7, 1, 15, 0, 1, 14, 1, 21, 0, 1), 14,
                Tables.start(3, 29, 40, 6, 235, 8, 46, 0, 1, 1));
        x.header(10, 1, 0, 0);
        Tables.writtenBy(x, "10, 1, 0, 0",
                Tables.entries(0, 1, 1, 0, 0, 245, 1, 1, 0, 0, 491, 1, 1, 0, 0, 736, 1, 0, 0, 0), 736,
                Tables.start(10, 255, 8, 11, 3, 127, 255, 0, 1, 1));
        x.header(10, 1, 0, 1);
        Tables.writtenBy(x, "10, 1, 0, 1", Tables.entries(0, 1, 1, 0, 1, 490, 1, 2, 0, 1, 981, 1, 2, 0, 1), 981,
                Tables.start(10, 3, 1, 8, 255, 2, 235, 3, 10, 0, 1, 1));
    }

    private static void everyHeader() {
        for (int base = 10; base <= 20; base++) {
            for (int range = 1; range <= 30; range++) {
                for (int low = -Math.min(20, range - 1); low <= 0; low++) {
                    edgesOf(base, range, low);
                }
            }
        }
    }

    /** Each of the lines about LOW and LOW + RANGE with each of the addresses about STEP and twice STEP. */
    private static void edgesOf(int base, int range, int low) {
        int step = (255 - base) / range;
        LinePrograms x = new LinePrograms();
        x.header(base, range, low, 1);
        List<Integer> due = new ArrayList<>(List.of(0, 5, 2, 0, 0, 0, 0, 3, 232, 7, base - low));
        int address = 0;
        int line = 1001;
        x.entry(address, 1, line, 0, 1);
        for (int a : Checks.list(1, step - 1, step, step + 1, 2 * step - 1, 2 * step, 2 * step + 1)) {
            for (int l : Checks.list(low - 1, low, 0, low + range - 1, low + range)) {
                if (a > 0) {
                    address += a;
                    line += l;
                    x.entry(address, 1, line, 0, 1);
                    due.addAll(bytesFor(base, range, low, a, l));
                }
            }
        }
        due.addAll(List.of(0, 1, 1));
        int[] bytes = due.stream().mapToInt(Integer::intValue).toArray();
        String what = "table with " + base + ", " + range + ", " + low;
        Checks.equal("write of a " + what, bytes.length, x.write(address));
        Checks.equal("bytes of a " + what, bytes, Checks.bytesOf(x));
    }

    /** Found by trying all bytes of the machine, not by reckoning: the numbers are small enough for one or two. */
    private static List<Integer> bytesFor(int base, int range, int low, int a, int l) {
        List<Integer> bytes = new ArrayList<>();
        int rest = l;
        if (byteThatAdds(base, range, low, 0, l) < 0) {
            bytes.addAll(List.of(3, l & 127));
            rest = 0;
        }
        int step = (255 - base) / range;
        int alone = byteThatAdds(base, range, low, a, rest);
        int behindStep = byteThatAdds(base, range, low, a - step, rest);
        if (alone >= 0) {
            bytes.add(alone);
        } else if (behindStep >= 0) {
            bytes.addAll(List.of(8, behindStep));
        } else {
            bytes.addAll(a < 128 ? List.of(2, a) : List.of(2, a % 128 + 128, a / 128));
            bytes.add(byteThatAdds(base, range, low, 0, rest));
        }
        return bytes;
    }

    private static int byteThatAdds(int base, int range, int low, int a, int l) {
        for (int b = base; b <= 255; b++) {
            if (low + (b - base) % range == l && (b - base) / range == a) {
                return b;
            }
        }
        return -1;
    }
}
