import java.io.IOException;
import java.nio.file.Files;
import java.nio.file.Path;
import java.util.ArrayList;
import java.util.List;
import java.util.function.IntSupplier;

/** The examples of README.md: each line's call is made, and its answer has to stand behind it. */
public final class ReadmeTest {
    private static final List<String> due = new ArrayList<>();

    public static void main(String[] args) throws IOException {
        tableByEntries();
        programByBytes();
        List<String> got = new ArrayList<>();
        for (String line : Files.readAllLines(Path.of("README.md"))) {
            if (line.matches("[xy]\\..*;.*")) {
                got.add(line.replaceAll("; +// ", " answers ").replaceAll(":.*", ""));
            }
        }
        Checks.equal("README.md", due, got);
        Checks.finish();
    }

    private static void tableByEntries() {
        LinePrograms x = new LinePrograms();
        call("x.entry(4096, 1, 10, 0, 1)", () -> x.entry(4096, 1, 10, 0, 1));
        call("x.entry(4100, 1, 11, 4, 1)", () -> x.entry(4100, 1, 11, 4, 1));
        call("x.write(4200)", () -> x.write(4200));
        call("x.run()", x::run);
        call("x.find(4103)", () -> x.find(4103));
        call("x.row(1, 2)", () -> x.row(1, 2));
        call("x.find(4200)", () -> x.find(4200));
    }

    private static void programByBytes() {
        LinePrograms y = new LinePrograms();
        for (int b : Checks.list(2, 100, 33, 0, 1, 1)) {
            call("y.put(" + b + ")", () -> y.put(b));
        }
        call("y.run()", y::run);
        call("y.row(0, 0)", () -> y.row(0, 0));
        call("y.row(0, 2)", () -> y.row(0, 2));
        call("y.put(7)", () -> y.put(7));
        call("y.run()", y::run);
        call("y.count(1)", () -> y.count(1));
    }

    private static void call(String text, IntSupplier asked) {
        String answer;
        try {
            answer = String.valueOf(asked.getAsInt());
        } catch (RuntimeException e) {
            answer = e.getClass().getSimpleName();
        }
        due.add(text + " answers " + answer);
    }
}
