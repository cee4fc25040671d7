import java.util.ArrayList;
import java.util.List;

/** Headers, programs, tables and numbers that are made by a fixed rule: the same ones each time, edges among them. */
final class Samples {
    private static final int MOST_PUTS = 200;

    private long seed;

    Samples(long seed) {
        this.seed = seed;
    }

    Model someModel() {
        if (below(4) == 0) {
            return new Model(13, 14, -5, 1);
        }
        int range = 1 + below(30);
        int low = -below(Math.min(21, range));
        return new Model(10 + below(11), range, low, below(2));
    }

    List<Integer> someProgram(Model model) {
        List<Integer> program = new ArrayList<>();
        int instructions = below(8) == 0 ? 120 : 1 + below(12);
        boolean many = instructions == 120;
        for (int i = 0; i < instructions && program.size() < MOST_PUTS; i++) {
            program.addAll(many ? List.of(1 + below(6) / 5 * 5) : someInstruction(model));
        }
        if (below(8) != 0) {
            program.addAll(List.of(0, 1, 1));
        }
        if (below(6) == 0) {
            program.set(below(program.size()), below(256));
        }
        if (below(12) == 0) {
            program.remove(program.size() - 1);
        }
        return program;
    }

    private List<Integer> someInstruction(Model model) {
        List<Integer> bytes = new ArrayList<>();
        int code = below(model.base + 4);
        if (code >= model.base) {
            bytes.add(model.base + below(256 - model.base));
            return bytes;
        }
        bytes.add(code);
        if (code == 0) {
            bytes.addAll(someExtended());
        } else if (code == 9) {
            bytes.add(below(256));
            bytes.add(below(3));
        } else if (code >= 2 && code <= 5 || code >= 10) {
            int more = below(40) == 0 ? 4 : below(3) / 2;
            for (int i = 0; i < more; i++) {
                bytes.add(128 + below(128));
            }
            bytes.add(more == 4 ? below(12) : code == 3 ? below(30) : below(128));
        }
        return bytes;
    }

    private List<Integer> someExtended() {
        switch (below(12)) {
            case 0:
                return List.of(5, 2, below(256), below(256), below(256), below(132));
            case 1:
            case 2:
                return List.of(5, 2, below(256), 0, 0, 0);
            case 3:
                return List.of(1 + below(5), below(4), 1, 6, 7);
            case 4:
                return List.of(3, 3 + below(253), below(256), below(256));
            case 5:
                return List.of(128 + below(4), below(2), below(3));
            default:
                return List.of(1, 1);
        }
    }

    List<int[]> someEntries() {
        List<int[]> entries = new ArrayList<>();
        boolean big = below(6) == 0;
        int most = big ? 60 : 1 + below(20);
        int seldom = big ? 2 : 4;
        long address = below(3) == 0 ? someNumber() : below(1000);
        int line = below(100);
        while (entries.size() < most && address <= Integer.MAX_VALUE) {
            entries.add(new int[] {(int) address, below(seldom) == 0 ? someNumber() : 1, line,
                below(seldom) == 0 ? someNumber() : 0, below(2)});
            address += !big && below(10) == 0 ? 1L + someNumber() : 1 + below(60);
            line = below(6) == 0 ? someNumber() : Math.min(Integer.MAX_VALUE - 60, Math.max(0, line + below(60) - 28));
        }
        return entries;
    }

    /** A number of any length: 0 .. 2^31 - 1, with edges among them. */
    int someNumber() {
        int bits = 1 + below(31);
        int top = (int) ((1L << bits) - 1);
        return below(3) == 0 ? top - below(2) : below(2) + (int) (next() % top);
    }

    int below(int limit) {
        return (int) (next() % limit);
    }

    private long next() {
        seed = seed * 6364136223846793005L + 1442695040888963407L;
        return seed >>> 33;
    }
}
