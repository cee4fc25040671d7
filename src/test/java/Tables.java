/** Tables that are given to an object entry by entry, and written. */
final class Tables {
    private Tables() {
    }

    /** Entries, five numbers each. */
    static int[] entries(int... values) {
        return values;
    }

    static void give(LinePrograms x, int... values) {
        for (int i = 0; i < values.length; i += 5) {
            x.entry(values[i], values[i + 1], values[i + 2], values[i + 3], values[i + 4]);
        }
    }

    /** What begins a table at address 0, and bytes behind it. */
    static int[] start(int... bytes) {
        return Checks.joined(Checks.list(0, 5, 2, 0, 0, 0, 0), bytes);
    }

    /** The table is written with the header as it is at first, and these are its bytes; it can be run. */
    static void written(String what, int[] entries, int end, int... due) {
        writtenBy(new LinePrograms(), what, entries, end, due);
    }

    static void writtenBy(LinePrograms x, String what, int[] entries, int end, int... due) {
        give(x, entries);
        Checks.equal("write of " + what, due.length, x.write(end));
        Checks.equal("bytes of " + what, due, Checks.bytesOf(x));
        Checks.equal("run of " + what, entries.length / 5 + 1, x.run());
    }

    /**
     * 59 entries that are 588 bytes long when written with the header as it is at first; with 7 for the start and
     * 3 for the end these are 598. Answers the last one's address.
     */
    static int giveAlmostTooMuch(LinePrograms x) {
        int address = 0;
        for (int i = 0; i < 59; i++) {
            address = 100 * i;
            x.entry(address, 2 + i % 2, i % 2 == 0 ? 101 : 1, 1 + i % 2, 1);
        }
        return address;
    }

    /** A program of 600 bytes, the last two of them these. */
    static void fillProgram(LinePrograms x, int b598, int b599) {
        x.write(giveAlmostTooMuch(x));
        Checks.putAll(x, b598, b599);
    }
}
