import java.util.ArrayList;
import java.util.Arrays;
import java.util.HashMap;
import java.util.List;
import java.util.Map;

/** Programs and tables, made by a fixed rule, through the class and through the model. */
public final class ComparedWithModelTest {
    private static final int PROGRAMS = 40000;
    private static final int TABLES = 6000;
    private static final int MOST_PUTS = 200;

    private static long seed = 20261115;
    private static final Map<String, Integer> seen = new HashMap<>();

    public static void main(String[] args) {
        for (int i = 0; i < PROGRAMS; i++) {
            comparePrograms();
        }
        for (int i = 0; i < TABLES; i++) {
            compareTables();
        }
        for (String kind : List.of("rows", "IndexOutOfBoundsException", "IllegalArgumentException",
                "ArithmeticException", "UnsupportedOperationException", "IllegalStateException",
                "NoSuchElementException", "table", "too long")) {
            Checks.isTrue("more than twenty of " + kind + ": " + seen, seen.getOrDefault(kind, 0) > 20);
        }
        Checks.finish();
    }

    private static void comparePrograms() {
        Model model = someModel();
        List<Integer> program = someProgram(model);
        LinePrograms x = objectWith(model);
        for (int b : program) {
            x.put(b);
        }
        compareRun("run of " + program, model, program, x);
    }

    private static void compareRun(String what, Model model, List<Integer> program, LinePrograms x) {
        List<int[]> rows = new ArrayList<>();
        Class<?> due = Checks.thrownBy(() -> rows.addAll(model.rowsOf(program)));
        int[] got = {0};
        Class<?> thrown = Checks.thrownBy(() -> got[0] = x.run());
        Checks.isTrue(what + " threw " + thrown + ", due is " + due, thrown == due);
        note(due == null ? "rows" : due.getSimpleName());
        if (due != null || thrown != null) {
            return;
        }
        Checks.equal(what, rows.size(), got[0]);
        for (int i = 0; i < Math.min(rows.size(), 12); i++) {
            Checks.equal("row " + i + " of " + what, rows.get(i), Checks.rowOf(x, i));
        }
        for (int i = 0; i < 20 && !rows.isEmpty(); i++) {
            int address = rows.get(below(rows.size()))[0] + below(5) - 2;
            Checks.equal("find(" + address + ") of " + what, Model.found(rows, address), x.find(address));
        }
    }

    private static void compareTables() {
        Model model = someModel();
        List<int[]> entries = someEntries();
        int lastAddress = entries.get(entries.size() - 1)[0];
        int end = (int) Math.min(Integer.MAX_VALUE, (long) lastAddress + (below(2) == 0 ? 0 : someNumber()));
        LinePrograms x = objectWith(model);
        for (int[] e : entries) {
            x.entry(e[0], e[1], e[2], e[3], e[4]);
        }
        List<Integer> due = model.written(entries, end);
        String what = "write of " + entries.size() + " entries to " + end;
        if (due.size() > 600) {
            note("too long");
            Checks.refused(what, IllegalStateException.class, () -> x.write(end));
            return;
        }
        note("table");
        Checks.equal(what, due.size(), x.write(end));
        for (int i = 0; i < Math.min(due.size(), 200); i++) {
            Checks.equal("byte " + i + " of " + what, due.get(i), x.byteAt(i));
        }
        compareRun("run behind " + what, model, due, x);
        for (int i = 0; i < Math.min(entries.size(), 12); i++) {
            Checks.equal("entry " + i + " as a row", entries.get(i), Arrays.copyOf(Checks.rowOf(x, i), 5));
        }
    }

    private static LinePrograms objectWith(Model model) {
        LinePrograms x = new LinePrograms();
        Checks.isTrue("header", x.header(model.base, model.range, model.low, model.start));
        return x;
    }

    private static Model someModel() {
        if (below(4) == 0) {
            return new Model(13, 14, -5, 1);
        }
        int range = 1 + below(30);
        int low = -below(Math.min(21, range));
        return new Model(10 + below(11), range, low, below(2));
    }

    private static List<Integer> someProgram(Model model) {
        List<Integer> program = new ArrayList<>();
        int instructions = below(8) == 0 ? 120 : 1 + below(12);
        boolean many = instructions == 120;
        for (int i = 0; i < instructions && program.size() < MOST_PUTS; i++) {
            program.addAll(many ? List.of(1 + below(6) / 5 * 5) : someInstruction(model));
        }
        if (below(8) != 0) {
            program.addAll(List.of(0, 1, 1));
        }
        if (below(6) == 0) {
            program.set(below(program.size()), below(256));
        }
        if (below(12) == 0) {
            program.remove(program.size() - 1);
        }
        return program;
    }

    private static List<Integer> someInstruction(Model model) {
        List<Integer> bytes = new ArrayList<>();
        int code = below(model.base + 4);
        if (code >= model.base) {
            bytes.add(model.base + below(256 - model.base));
            return bytes;
        }
        bytes.add(code);
        if (code == 0) {
            bytes.addAll(someExtended());
        } else if (code == 9) {
            bytes.add(below(256));
            bytes.add(below(3));
        } else if (code >= 2 && code <= 5 || code >= 10) {
            int more = below(40) == 0 ? 4 : below(3) / 2;
            for (int i = 0; i < more; i++) {
                bytes.add(128 + below(128));
            }
            bytes.add(more == 4 ? below(12) : code == 3 ? below(30) : below(128));
        }
        return bytes;
    }

    private static List<Integer> someExtended() {
        switch (below(12)) {
            case 0:
                return List.of(5, 2, below(256), below(256), below(256), below(132));
            case 1:
            case 2:
                return List.of(5, 2, below(256), 0, 0, 0);
            case 3:
                return List.of(1 + below(5), below(4), 1, 6, 7);
            case 4:
                return List.of(3, 3 + below(253), below(256), below(256));
            case 5:
                return List.of(128 + below(4), below(2), below(3));
            default:
                return List.of(1, 1);
        }
    }

    private static List<int[]> someEntries() {
        List<int[]> entries = new ArrayList<>();
        boolean big = below(6) == 0;
        int most = big ? 60 : 1 + below(20);
        int seldom = big ? 2 : 4;
        long address = below(3) == 0 ? someNumber() : below(1000);
        int line = below(100);
        while (entries.size() < most && address <= Integer.MAX_VALUE) {
            entries.add(new int[] {(int) address, below(seldom) == 0 ? someNumber() : 1, line,
                below(seldom) == 0 ? someNumber() : 0, below(2)});
            address += !big && below(10) == 0 ? 1L + someNumber() : 1 + below(60);
            line = below(6) == 0 ? someNumber() : Math.min(Integer.MAX_VALUE - 60, Math.max(0, line + below(60) - 28));
        }
        return entries;
    }

    /** A number of any length: 0 .. 2^31 - 1, with edges among them. */
    private static int someNumber() {
        int bits = 1 + below(31);
        int top = (int) ((1L << bits) - 1);
        return below(3) == 0 ? top - below(2) : below(2) + (int) (next() % top);
    }

    private static void note(String kind) {
        seen.merge(kind, 1, Integer::sum);
    }

    private static int below(int limit) {
        return (int) (next() % limit);
    }

    private static long next() {
        seed = seed * 6364136223846793005L + 1442695040888963407L;
        return seed >>> 33;
    }
}
