import java.io.IOException;
import java.nio.file.Files;
import java.nio.file.Path;
import java.util.regex.Matcher;
import java.util.regex.Pattern;

// The calls in README.md answer what stands behind them.
public final class ReadmeTest extends Check {
    private static final Pattern WRITTEN = Pattern.compile("for \\(char c : \"(.*)\"\\.toCharArray\\(\\)\\) \\{");
    private static final Pattern CALLED = Pattern.compile("x\\.(\\w+)\\(([-\\d, L]*)\\);\\s*// (-?\\d+|throws \\w+).*");

    public static void main(String[] args) throws IOException {
        under("README.md");
        StepPaths x = new StepPaths();
        int calls = 0;
        for (String line : Files.readAllLines(Path.of("README.md"))) {
            Matcher written = WRITTEN.matcher(line);
            if (written.matches()) {
                written.group(1).chars().forEach(x::append);
            }
            Matcher called = CALLED.matcher(line);
            if (called.matches()) {
                calls++;
                due(line, () -> call(x, called.group(1), called.group(2)), called.group(3).replace("throws ", "throws."));
            }
        }
        due("calls found", calls > 20 ? "more than 20" : "only " + calls, "more than 20");
        end();
    }

    private static long call(StepPaths x, String name, String list) {
        long[] numbers = list.isEmpty() ? new long[0]
                : Pattern.compile(", ").splitAsStream(list.replace("L", "")).mapToLong(Long::parseLong).toArray();
        switch (name) {
            case "load":
                return x.load();
            case "clearText":
                return x.clearText();
            case "take":
                return x.take();
            case "undo":
                return x.undo();
            case "save":
                return x.save((int) numbers[0]);
            case "restore":
                return x.restore((int) numbers[0]);
            case "removeStep":
                return x.removeStep((int) numbers[0]);
            case "setCost":
                return x.setCost((int) numbers[0], (int) numbers[1]);
            case "cost":
                return x.cost((int) numbers[0], (int) numbers[1]);
            case "length":
                return x.length((int) numbers[0], (int) numbers[1]);
            case "needed":
                return x.needed((int) numbers[0], (int) numbers[1]);
            case "bestNew":
                return x.bestNew((int) numbers[0], (int) numbers[1]);
            case "pathAt":
                return x.pathAt((int) numbers[0], (int) numbers[1], (int) numbers[2]);
            case "paths":
                return x.paths((int) numbers[0], (int) numbers[1], (int) numbers[2]);
            case "follow":
                return x.follow((int) numbers[0], (int) numbers[1], numbers[2]);
            case "runScript":
                return x.runScript((int) numbers[0], numbers[1]);
            case "simulate":
                return x.simulate(numbers[0], (int) numbers[1]);
            default:
                throw new UnsupportedOperationException(name);
        }
    }
}
