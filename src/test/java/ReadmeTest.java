import java.io.File;
import java.nio.file.Files;
import java.nio.file.Path;
import java.util.ArrayList;
import java.util.List;
import java.util.Set;
import java.util.TreeSet;
import java.util.regex.Matcher;
import java.util.regex.Pattern;

/** README.md: its example, the calls and their ranges, the exceptions, the tests. */
public final class ReadmeTest {
    private static final Pattern EXAMPLE = Pattern.compile("hall\\.(\\w+)\\(([-\\d, ]*)\\);(.*)");
    private static final Pattern CALL = Pattern.compile("\\| `(\\w+\\([^)]*\\))` \\| ([^|]*) \\|.*");
    private static final Pattern STATE = Pattern.compile("\\| `IllegalStateException` \\| `(\\w+)`.*");
    private static final Pattern TEST = Pattern.compile("\\| `(\\w+Test)` \\| .*");

    private static final Check check = new Check();

    public static void main(String[] args) throws Exception {
        String readme = Files.readString(Path.of(args[1]));
        Face face = Face.read(Files.readString(Path.of(args[2])));
        String use = Face.part(readme, "## How to use the class");
        example(use);
        calls(use, face);
        ranges(face);
        exceptions(use, face);
        tests(Face.part(readme, "## How to run the tests"));
        check.end();
    }

    private static void example(String use) {
        Coldaisle hall = new Coldaisle();
        int lines = 0;
        Matcher line = EXAMPLE.matcher(use);
        while (line.find()) {
            String told = line.group(3).trim();
            String due = told.isEmpty() ? "0" : told.substring(3).split(":")[0];
            String got = answer(hall, line.group(1), line.group(2));
            check.holds(line.group() + ", and it is " + got, got.equals(due));
            lines++;
        }
        check.due("lines of the example", lines, 18);
    }

    private static String answer(Coldaisle hall, String name, String arguments) {
        int[] values = new int[3];
        String[] written = arguments.isEmpty() ? new String[0] : arguments.split(", ");
        for (int i = 0; i < written.length; i++) {
            values[i] = Integer.parseInt(written[i]);
        }
        try {
            return "" + Calls.answer(hall, name, values[0], values[1], values[2]);
        } catch (RuntimeException thrown) {
            return thrown.getClass().getSimpleName();
        }
    }

    private static void calls(String use, Face face) {
        Set<String> due = new TreeSet<>();
        for (Face.Call call : face.calls) {
            String ranges = call.ranges().isEmpty() ? "none" : String.join(", ", call.ranges());
            due.add(call.name() + "(" + String.join(", ", call.parameters()) + ") " + ranges);
        }
        Set<String> told = new TreeSet<>();
        Matcher row = CALL.matcher(use);
        while (row.find()) {
            told.add(row.group(1) + " " + row.group(2));
        }
        check.due("calls", told.size(), 20);
        check.holds("the calls are " + told + ", due is " + due, told.equals(due));
    }

    // The other tests take the ranges from Calls, so these must be the document's too.
    private static void ranges(Face face) {
        for (Face.Call call : face.calls) {
            int[][] ranges = Calls.ranges(call.name());
            List<String> written = new ArrayList<>();
            for (int i = 0; i < ranges.length; i++) {
                written.add(call.parameters().get(i) + " " + ranges[i][0] + " to " + ranges[i][1]);
            }
            check.holds(call.name() + " takes " + written, written.equals(call.ranges()));
        }
    }

    private static void exceptions(String use, Face face) {
        Set<String> due = new TreeSet<>();
        for (Face.Call call : face.calls) {
            if (call.exceptions().contains("IllegalStateException")) {
                due.add(call.name());
            }
            check.holds(call.name() + " refuses arguments if it takes any",
                    call.exceptions().contains("IllegalArgumentException")
                            != call.parameters().isEmpty());
        }
        Set<String> told = new TreeSet<>();
        Matcher row = STATE.matcher(use);
        while (row.find()) {
            told.add(row.group(1));
        }
        check.holds("a state refuses " + told + ", due is " + due, told.equals(due));
    }

    private static void tests(String run) {
        Set<String> due = new TreeSet<>();
        for (String file : new File("src/test/java").list()) {
            if (file.endsWith("Test.java")) {
                due.add(file.substring(0, file.length() - 5));
            }
        }
        Set<String> told = new TreeSet<>();
        Matcher row = TEST.matcher(run);
        while (row.find()) {
            told.add(row.group(1));
        }
        check.holds("the tests are " + told + ", due is " + due, told.equals(due));
    }
}
