import java.util.ArrayList;
import java.util.Arrays;
import java.util.HashMap;
import java.util.List;
import java.util.Map;

/** Programs and tables, made by a fixed rule, through the class and through the model. */
public final class ComparedWithModelTest {
    private static final int PROGRAMS = 40000;
    private static final int TABLES = 6000;

    private static final Samples samples = new Samples(20261115);
    private static final Map<String, Integer> seen = new HashMap<>();

    public static void main(String[] args) {
        for (int i = 0; i < PROGRAMS; i++) {
            comparePrograms();
        }
        for (int i = 0; i < TABLES; i++) {
            compareTables();
        }
        for (String kind : List.of("rows", "IndexOutOfBoundsException", "IllegalArgumentException",
                "ArithmeticException", "UnsupportedOperationException", "IllegalStateException",
                "NoSuchElementException", "table", "too long")) {
            Checks.isTrue("more than twenty of " + kind + ": " + seen, seen.getOrDefault(kind, 0) > 20);
        }
        Checks.finish();
    }

    private static void comparePrograms() {
        Model model = samples.someModel();
        List<Integer> program = samples.someProgram(model);
        LinePrograms x = objectWith(model);
        for (int b : program) {
            x.put(b);
        }
        compareRun("run of " + program, model, program, x);
    }

    private static void compareRun(String what, Model model, List<Integer> program, LinePrograms x) {
        List<int[]> rows = new ArrayList<>();
        Class<?> due = Checks.thrownBy(() -> rows.addAll(model.rowsOf(program)));
        int[] got = {0};
        Class<?> thrown = Checks.thrownBy(() -> got[0] = x.run());
        Checks.isTrue(what + " threw " + thrown + ", due is " + due, thrown == due);
        note(due == null ? "rows" : due.getSimpleName());
        if (due != null || thrown != null) {
            return;
        }
        Checks.equal(what, rows.size(), got[0]);
        for (int i = 0; i < Math.min(rows.size(), 12); i++) {
            Checks.equal("row " + i + " of " + what, rows.get(i), Checks.rowOf(x, i));
        }
        for (int i = 0; i < 20 && !rows.isEmpty(); i++) {
            int address = rows.get(samples.below(rows.size()))[0] + samples.below(5) - 2;
            Checks.equal("find(" + address + ") of " + what, Model.found(rows, address), x.find(address));
        }
    }

    private static void compareTables() {
        Model model = samples.someModel();
        List<int[]> entries = samples.someEntries();
        int lastAddress = entries.get(entries.size() - 1)[0];
        long more = samples.below(2) == 0 ? 0 : samples.someNumber();
        int end = (int) Math.min(Integer.MAX_VALUE, lastAddress + more);
        LinePrograms x = objectWith(model);
        for (int[] e : entries) {
            x.entry(e[0], e[1], e[2], e[3], e[4]);
        }
        List<Integer> due = model.written(entries, end);
        String what = "write of " + entries.size() + " entries to " + end;
        if (due.size() > 600) {
            note("too long");
            Checks.refused(what, IllegalStateException.class, () -> x.write(end));
            return;
        }
        note("table");
        Checks.equal(what, due.size(), x.write(end));
        for (int i = 0; i < Math.min(due.size(), 200); i++) {
            Checks.equal("byte " + i + " of " + what, due.get(i), x.byteAt(i));
        }
        compareRun("run behind " + what, model, due, x);
        for (int i = 0; i < Math.min(entries.size(), 12); i++) {
            Checks.equal("entry " + i + " as a row", entries.get(i), Arrays.copyOf(Checks.rowOf(x, i), 5));
        }
    }

    private static LinePrograms objectWith(Model model) {
        LinePrograms x = new LinePrograms();
        Checks.isTrue("header", x.header(model.base, model.range, model.low, model.start));
        return x;
    }

    private static void note(String kind) {
        seen.merge(kind, 1, Integer::sum);
    }
}
