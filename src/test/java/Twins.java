import java.util.ArrayList;
import java.util.List;
import java.util.function.Consumer;
import java.util.function.IntSupplier;

/** Two objects with the same calls behind them, one of them with a refused call more: nothing may tell them apart. */
final class Twins {
    // Of long programs and of many rows both ends are looked at: an object is good for 512 calls.
    private static final int BYTES_OF_AN_END = 14;
    private static final int ROWS_OF_AN_END = 2;

    private Twins() {
    }

    /** The call throws an exception of just this class, and what came before it is as it was. */
    static void refused(String what, Class<? extends RuntimeException> due, Consumer<LinePrograms> before,
            Consumer<LinePrograms> call) {
        LinePrograms tried = new LinePrograms();
        before.accept(tried);
        Checks.refused(what, due, () -> call.accept(tried));
        same("what a refused " + what + " leaves", before, tried);
    }

    /** The call answers this, and what came before it is as it was. */
    static void answered(String what, long due, Consumer<LinePrograms> before, AskedCall call) {
        LinePrograms tried = new LinePrograms();
        before.accept(tried);
        Checks.equal(what, due, call.on(tried));
        same("what " + what + " leaves", before, tried);
    }

    interface AskedCall {
        long on(LinePrograms x);
    }

    private static void same(String what, Consumer<LinePrograms> before, LinePrograms tried) {
        LinePrograms other = new LinePrograms();
        before.accept(other);
        Checks.equal(what, told(other), told(tried));
    }

    /** All that an object tells of itself, and what comes of its table and its header at last. */
    private static List<String> told(LinePrograms x) {
        List<String> all = new ArrayList<>();
        tellState(x, all);
        all.add("write " + outcome(() -> x.write(Integer.MAX_VALUE)));
        tellState(x, all);
        all.add("run " + outcome(x::run));
        tellRows(x, all);
        tellHeader(x, all);
        return all;
    }

    private static void tellState(LinePrograms x, List<String> all) {
        for (int what = 0; what <= 2; what++) {
            all.add("count " + what + " " + x.count(what));
        }
        int size = x.count(0);
        for (int i = 0; i < size; i++) {
            if (i < BYTES_OF_AN_END || i >= size - BYTES_OF_AN_END) {
                all.add("byte " + i + " " + x.byteAt(i));
            }
        }
        tellRows(x, all);
    }

    private static void tellRows(LinePrograms x, List<String> all) {
        int size = x.count(1);
        for (int i = 0; i < size; i++) {
            if (i < ROWS_OF_AN_END || i >= size - ROWS_OF_AN_END) {
                all.add("row " + i + " " + java.util.Arrays.toString(Checks.rowOf(x, i)));
            }
        }
        for (int address : Checks.list(0, 5, Integer.MAX_VALUE)) {
            all.add("find " + address + " " + x.find(address));
        }
    }

    // 20 and above are special ones with every header.
    private static void tellHeader(LinePrograms x, List<String> all) {
        x.clear();
        Checks.putAll(x, 3, 60, 20, 8, 49, 255, 0, 1, 1);
        all.add("run with this header " + outcome(x::run));
        tellRows(x, all);
    }

    private static String outcome(IntSupplier call) {
        try {
            return String.valueOf(call.getAsInt());
        } catch (RuntimeException e) {
            return e.getClass().getSimpleName();
        }
    }
}
