import java.io.IOException;
import java.util.Arrays;
import java.util.List;
import java.util.TreeSet;
import java.util.regex.Matcher;
import java.util.regex.Pattern;

/** README.md: the calls of its examples answer what stands behind them, and every method stands there. */
public final class ReadmeTest {
    private static final Pattern CALL = Pattern.compile("bench\\.(\\w+)\\(([-\\d, ]*)\\);\\s+// (-?\\d+)(:.*)?");
    private static final String MADE = "TrayBench bench = new TrayBench();";

    public static void main(String[] args) throws IOException {
        String readme = Texts.readme();
        examples(readme.substring(Math.max(readme.indexOf("### Examples"), 0)));
        methods(readme);
        Due.holds("the README says how the tests are run", readme.contains("\n    .ci/run\n"));
        Due.end();
    }

    private static void examples(String text) {
        List<String> names = Arrays.asList(Face.names());
        TreeSet<String> shown = new TreeSet<>();
        TrayBench x = new TrayBench();
        for (String line : text.split("\n")) {
            Matcher call = CALL.matcher(line);
            if (line.equals(MADE)) {
                x = new TrayBench();
            } else if (call.matches() && names.contains(call.group(1))) {
                shown.add(call.group(1));
                int answer = Model.call(x, names.indexOf(call.group(1)), numbers(call.group(2)));
                Due.due(line, answer, Integer.parseInt(call.group(3)));
            } else {
                Due.holds("'" + line + "' is no example, or one that can be tried", !line.contains("bench."));
            }
        }
        Due.holds("the examples show every method: " + shown, shown.equals(new TreeSet<>(names)));
    }

    private static int[] numbers(String list) {
        return list.isEmpty() ? new int[0] : Arrays.stream(list.split(", ")).mapToInt(Integer::parseInt).toArray();
    }

    private static void methods(String readme) {
        for (String line : Face.METHODS) {
            String method = line.replace("public int ", "`").replace(";", "`");
            Due.holds("the README has " + method, readme.contains(method));
        }
    }
}
