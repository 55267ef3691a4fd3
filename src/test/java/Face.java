import java.util.ArrayList;
import java.util.List;
import java.util.regex.Matcher;
import java.util.regex.Pattern;

/** What "The public face" of the document and the lists under its promises tell of the calls. */
final class Face {
    /** A call; each range is written as its parameter, its least and its greatest value. */
    record Call(String returns, String name, List<String> types, List<String> parameters,
            List<String> exceptions, List<String> ranges) {
        String signature() {
            return Face.signature(returns, name, types, exceptions);
        }
    }

    private static final Pattern CALL = Pattern.compile(
            "    public (\\w+) (\\w+)\\(([^)]*)\\)(?: throws ([\\w, ]+))?;");
    private static final Pattern CONSTANT = Pattern.compile("    (public static final [^;(]+);");
    private static final Pattern RANGE = Pattern.compile("- `(\\w+)`: (-?\\d+ to -?\\d+)");

    final List<Call> calls = new ArrayList<>();
    final List<String> constants = new ArrayList<>();

    private Face() {
    }

    static Face read(String document) {
        Face face = new Face();
        for (String line : part(document, "## The public face").split("\n")) {
            Matcher call = CALL.matcher(line);
            Matcher constant = CONSTANT.matcher(line);
            if (call.matches()) {
                face.calls.add(call(document, call));
            } else if (constant.matches()) {
                face.constants.add(constant.group(1));
            }
        }
        return face;
    }

    static String signature(String returns, String name, List<String> types,
            List<String> exceptions) {
        String thrown = exceptions.isEmpty() ? "" : " throws " + String.join(", ", exceptions);
        return returns + " " + name + "(" + String.join(", ", types) + ")" + thrown;
    }

    private static Call call(String document, Matcher found) {
        List<String> types = new ArrayList<>();
        List<String> parameters = new ArrayList<>();
        for (String parameter : list(found.group(3))) {
            String[] typeAndName = parameter.split(" ");
            types.add(typeAndName[0]);
            parameters.add(typeAndName[1]);
        }
        String name = found.group(2);
        List<String> ranges = new ArrayList<>();
        Matcher range = RANGE.matcher(part(document, promise(document, name)));
        while (range.find()) {
            ranges.add(range.group(1) + " " + range.group(2));
        }
        return new Call(found.group(1), name, types, parameters, list(found.group(4)), ranges);
    }

    private static String promise(String document, String name) {
        Matcher heading = Pattern.compile("## Promise \\d+: " + name + "\n").matcher(document);
        if (!heading.find()) {
            throw new AssertionError("no promise tells of " + name);
        }
        return heading.group();
    }

    private static List<String> list(String text) {
        return text == null || text.isEmpty() ? List.of() : List.of(text.split(", "));
    }

    /** The text from a heading to the next heading of its level. */
    static String part(String text, String heading) {
        int from = text.indexOf(heading);
        if (from < 0) {
            throw new AssertionError("no heading " + heading);
        }
        int to = text.indexOf("\n## ", from + heading.length() - 1);
        return text.substring(from, to < 0 ? text.length() : to + 1);
    }
}
