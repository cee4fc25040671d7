import java.util.ArrayList;
import java.util.List;
import java.util.NoSuchElementException;

/** A second reading of the whole face: the state as plain lists, the machine and the tables by the model. */
final class ModelObject {
    private Model model = new Model(13, 14, -5, 1);
    private List<Integer> program = new ArrayList<>();
    private List<int[]> rows = new ArrayList<>();
    private List<int[]> entries = new ArrayList<>();

    boolean header(int base, int range, int low, int start) {
        boolean wellMade = isAmong(base, 10, 20) && isAmong(range, 1, 30) && isAmong(low, -20, 0)
                && isAmong(start, 0, 1) && low + range > 0;
        if (wellMade) {
            model = new Model(base, range, low, start);
        }
        return wellMade;
    }

    Model model() {
        return model;
    }

    int put(int b) {
        if (program.size() == 600) {
            throw new IllegalStateException();
        }
        program.add(Math.floorMod(b, 256));
        return program.size();
    }

    int clear() {
        int had = program.size();
        program = new ArrayList<>();
        return had;
    }

    int byteAt(int i) {
        return isAmong(i, 0, program.size() - 1) ? program.get(i) : -1;
    }

    int run() {
        rows = model.rowsOf(program);
        return rows.size();
    }

    int row(int i, int what) {
        if (!isAmong(i, 0, rows.size() - 1) || !isAmong(what, 0, 6)) {
            throw new IndexOutOfBoundsException();
        }
        return rows.get(i)[what];
    }

    int find(int address) {
        return Model.found(rows, address);
    }

    int entry(int address, int file, int line, int column, int statement) {
        if (address <= addressBefore() || file < 0 || line < 0 || column < 0 || !isAmong(statement, 0, 1)) {
            throw new IllegalArgumentException();
        }
        if (entries.size() == 60) {
            throw new IllegalStateException();
        }
        entries.add(new int[] {address, file, line, column, statement});
        return entries.size();
    }

    /** The last entry's address; -1 when there is none, which every address has to be above, too. */
    int addressBefore() {
        return entries.isEmpty() ? -1 : entries.get(entries.size() - 1)[0];
    }

    int write(int end) {
        if (entries.isEmpty()) {
            throw new NoSuchElementException();
        }
        if (end < addressBefore()) {
            throw new IllegalArgumentException();
        }
        List<Integer> bytes = model.written(entries, end);
        if (bytes.size() > 600) {
            throw new IllegalStateException();
        }
        program = bytes;
        entries = new ArrayList<>();
        return bytes.size();
    }

    int count(int what) {
        int[] counts = {program.size(), rows.size(), entries.size()};
        return isAmong(what, 0, 2) ? counts[what] : -1;
    }

    private static boolean isAmong(int value, int least, int greatest) {
        return value >= least && value <= greatest;
    }
}
