import java.util.HashMap;
import java.util.List;
import java.util.Map;
import java.util.function.IntSupplier;

/** Objects that live for 512 calls, good and wrong ones in turn: each call is answered as by the model's object. */
public final class WholeLifeTest {
    private static final int OBJECTS = 1500;
    private static final int CALLS = 512;

    private static final Samples samples = new Samples(512);
    private static final Map<String, Integer> seen = new HashMap<>();

    private final LinePrograms tried = new LinePrograms();
    private final ModelObject due = new ModelObject();
    private int calls = 0;

    public static void main(String[] args) {
        for (int i = 0; i < OBJECTS; i++) {
            new WholeLifeTest().live();
        }
        for (String outcome : List.of("header", "no header", "put", "put IllegalStateException", "clear", "byteAt",
                "no byteAt", "run", "run IndexOutOfBoundsException", "run IllegalArgumentException",
                "run ArithmeticException", "run UnsupportedOperationException", "run IllegalStateException",
                "run NoSuchElementException", "row", "row IndexOutOfBoundsException", "find", "no find", "entry",
                "entry IllegalArgumentException", "entry IllegalStateException", "write",
                "write NoSuchElementException", "write IllegalArgumentException", "write IllegalStateException",
                "count", "no count")) {
            Checks.isTrue("more than twenty of " + outcome + ": " + seen, seen.getOrDefault(outcome, 0) > 20);
        }
        Checks.finish();
    }

    private void live() {
        while (calls < CALLS) {
            switch (samples.below(9)) {
                case 0:
                    giveHeader();
                    break;
                case 1:
                case 2:
                    givePrograms();
                    break;
                case 3:
                case 4:
                    giveEntries();
                    break;
                case 5:
                    fill();
                    break;
                case 6:
                    write();
                    break;
                case 7:
                    run();
                    break;
                default:
                    askAbout();
                    break;
            }
        }
    }

    private void giveHeader() {
        Model model = samples.someModel();
        int[] h = {model.base, model.range, model.low, model.start};
        if (samples.below(2) == 0) {
            h[samples.below(4)] = samples.below(55) - 22;
        }
        same("header", () -> tried.header(h[0], h[1], h[2], h[3]) ? 1 : -1,
                () -> due.header(h[0], h[1], h[2], h[3]) ? 1 : -1);
    }

    private void givePrograms() {
        if (samples.below(3) != 0) {
            same("clear", tried::clear, due::clear);
        }
        for (int b : samples.someProgram(due.model())) {
            int given = samples.below(8) == 0 ? b + 256 * (samples.below(9) - 4) : b;
            same("put", () -> tried.put(given), () -> due.put(given));
        }
        run();
    }

    private void giveEntries() {
        int more = samples.below(3) == 0 ? 0 : due.addressBefore() + 1;
        for (int[] e : samples.someEntries()) {
            int[] given = e.clone();
            given[0] += more;
            if (samples.below(20) == 0) {
                given[samples.below(5)] = samples.below(2) == 0 ? samples.below(5) - 2 : -samples.someNumber();
            }
            same("entry", () -> tried.entry(given[0], given[1], given[2], given[3], given[4]),
                    () -> due.entry(given[0], given[1], given[2], given[3], given[4]));
        }
    }

    // A long program by few calls: a table of 60 entries, and bytes behind it up to the 600th.
    private void fill() {
        write();
        for (int i = 0; i < 60; i++) {
            int[] e = {100 * i, 2 + i % 2, i % 2 == 0 ? 101 : 1, 1 + i % 2, i == 59 ? 1 : 0};
            same("entry", () -> tried.entry(e[0], e[1], e[2], e[3], e[4]),
                    () -> due.entry(e[0], e[1], e[2], e[3], e[4]));
        }
        write();
        for (int i = 0; i < 20; i++) {
            int b = samples.below(300);
            same("put", () -> tried.put(b), () -> due.put(b));
        }
        run();
    }

    private void write() {
        int end = samples.below(4) == 0 ? samples.someNumber() : due.addressBefore() + samples.below(200) - 3;
        same("write", () -> tried.write(end), () -> due.write(end));
        askAbout();
    }

    private void run() {
        same("run", tried::run, due::run);
        askAbout();
    }

    private void askAbout() {
        for (int i = 0; i < 6; i++) {
            int what = samples.below(5) - 1;
            same("count", () -> tried.count(what), () -> due.count(what));
            int at = samples.below(4) == 0 ? samples.below(602) - 1 : samples.below(1 + due.count(0));
            same("byteAt", () -> tried.byteAt(at), () -> due.byteAt(at));
            int row = samples.below(2 + due.count(1)) - (samples.below(8) == 0 ? 1 : 0);
            int told = samples.below(8) - (samples.below(8) == 0 ? 1 : 0);
            same("row", () -> tried.row(row, told), () -> due.row(row, told));
            int address = someAddress();
            same("find", () -> tried.find(address), () -> due.find(address));
        }
    }

    private int someAddress() {
        int size = due.count(1);
        return size == 0 || samples.below(8) == 0 ? samples.someNumber() - samples.below(2)
                : due.row(samples.below(size), 0) + samples.below(5) - 2;
    }

    private void same(String call, IntSupplier got, IntSupplier wanted) {
        if (calls >= CALLS) {
            return;
        }
        calls++;
        String outcome = outcome(call, wanted);
        Checks.equal("call " + calls + ", " + call, List.of(outcome), List.of(outcome(call, got)));
        seen.merge(outcome.replaceAll(" [0-9]+$", ""), 1, Integer::sum);
    }

    private static String outcome(String call, IntSupplier asked) {
        try {
            int answer = asked.getAsInt();
            return answer == -1 ? "no " + call : call + " " + answer;
        } catch (RuntimeException e) {
            return call + " " + e.getClass().getSimpleName();
        }
    }
}
