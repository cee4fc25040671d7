import java.util.Arrays;
import java.util.List;

/** What the tests share: answers that are compared and counted, and short ways to make objects. */
final class Checks {
    private static int done = 0;
    private static int wrong = 0;

    private Checks() {
    }

    static void equal(String what, long due, long got) {
        done++;
        if (got != due) {
            fail(what + " answered " + got + ", due is " + due);
        }
    }

    static void equal(String what, int[] due, int[] got) {
        done++;
        if (!Arrays.equals(due, got)) {
            fail(what + " answered " + Arrays.toString(got) + ", due is " + Arrays.toString(due));
        }
    }

    static void equal(String what, List<String> due, List<String> got) {
        done++;
        if (!due.equals(got)) {
            fail(what + " answered " + got + ", due is " + due);
        }
    }

    static void isTrue(String what, boolean got) {
        equal(what, 1, got ? 1 : 0);
    }

    static void isFalse(String what, boolean got) {
        equal(what, 0, got ? 1 : 0);
    }

    /** The call throws an exception of just this class. */
    static void refused(String what, Class<? extends RuntimeException> due, Runnable call) {
        done++;
        Class<?> got = thrownBy(call);
        if (got != due) {
            fail(what + " threw " + got + ", due is " + due);
        }
    }

    /** The class of what the call throws; null when it throws nothing. */
    static Class<?> thrownBy(Runnable call) {
        try {
            call.run();
            return null;
        } catch (RuntimeException e) {
            return e.getClass();
        }
    }

    private static void fail(String text) {
        wrong++;
        System.out.println(text);
    }

    /** The last call of each test: exit code 1 if anything was wrong. */
    static void finish() {
        System.out.println(done + " checks, " + wrong + " wrong");
        if (wrong != 0 || done == 0) {
            System.exit(1);
        }
    }

    static LinePrograms program(int... bytes) {
        LinePrograms x = new LinePrograms();
        putAll(x, bytes);
        return x;
    }

    static void putAll(LinePrograms x, int... bytes) {
        for (int b : bytes) {
            x.put(b);
        }
    }

    static int[] bytesOf(LinePrograms x) {
        int[] bytes = new int[x.count(0)];
        for (int i = 0; i < bytes.length; i++) {
            bytes[i] = x.byteAt(i);
        }
        return bytes;
    }

    /** address, file, line, column, statement, block, last of a row. */
    static int[] rowOf(LinePrograms x, int i) {
        int[] row = new int[7];
        for (int what = 0; what < row.length; what++) {
            row[what] = x.row(i, what);
        }
        return row;
    }

    static int[] list(int... values) {
        return values;
    }

    static int[] joined(int[]... parts) {
        int size = 0;
        for (int[] part : parts) {
            size += part.length;
        }
        int[] all = new int[size];
        int at = 0;
        for (int[] part : parts) {
            System.arraycopy(part, 0, all, at, part.length);
            at += part.length;
        }
        return all;
    }

    static int[] repeated(int count, int... values) {
        int[][] parts = new int[count][];
        Arrays.fill(parts, values);
        return joined(parts);
    }
}
