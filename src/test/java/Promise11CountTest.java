public final class Promise11CountTest {
    public static void main(String[] args) {
        asTheyChange();
        atTheirLimits();
        anyOtherNumber();
        Checks.finish();
    }

    private static void asTheyChange() {
        LinePrograms x = new LinePrograms();
        counts("of a new object", x, 0, 0, 0);
        Checks.putAll(x, 1, 1, 0, 1, 1);
        x.entry(1, 1, 1, 1, 1);
        x.entry(2, 1, 1, 1, 1);
        counts("before a run", x, 5, 0, 2);
        x.run();
        counts("behind a run", x, 5, 3, 2);
        x.put(1);
        Checks.refused("run", java.util.NoSuchElementException.class, x::run);
        counts("behind a refused run", x, 6, 3, 2);
        Checks.refused("entry", IllegalArgumentException.class, () -> x.entry(2, 1, 1, 1, 1));
        counts("behind a refused entry", x, 6, 3, 2);
        Checks.refused("write", IllegalArgumentException.class, () -> x.write(1));
        counts("behind a refused write", x, 6, 3, 2);
        x.clear();
        counts("behind clear", x, 0, 3, 2);
        x.write(2);
        counts("behind write", x, 14, 3, 0);
        x.clear();
        x.run();
        counts("behind a run of nothing", x, 0, 0, 0);
    }

    private static void atTheirLimits() {
        LinePrograms x = Checks.program(Runs.then(Checks.repeated(89, 1)));
        x.run();
        Tables.fillProgram(x, 1, 1);
        for (int i = 0; i < 60; i++) {
            x.entry(i, 1, 1, 0, 1);
        }
        counts("at their limits", x, 600, 90, 60);
        Checks.refused("put", IllegalStateException.class, () -> x.put(1));
        Checks.refused("run", java.util.NoSuchElementException.class, x::run);
        Checks.refused("entry", IllegalStateException.class, () -> x.entry(60, 1, 1, 0, 1));
        counts("still at their limits", x, 600, 90, 60);
    }

    private static void anyOtherNumber() {
        for (int what : Checks.list(-1, 3, 4, 256, 258, Integer.MAX_VALUE, Integer.MIN_VALUE)) {
            Twins.answered("count(" + what + ")", -1, x -> {
                Checks.putAll(x, 1, 1, 0, 1, 1);
                x.run();
                x.entry(1, 1, 1, 1, 1);
            }, x -> x.count(what));
        }
    }

    private static void counts(String when, LinePrograms x, int bytes, int rows, int entries) {
        Checks.equal("bytes " + when, bytes, x.count(0));
        Checks.equal("rows " + when, rows, x.count(1));
        Checks.equal("entries " + when, entries, x.count(2));
        Checks.equal("count(-1) " + when, -1, x.count(-1));
        Checks.equal("count(3) " + when, -1, x.count(3));
    }
}
