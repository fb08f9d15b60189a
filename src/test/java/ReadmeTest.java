import java.io.IOException;
import java.lang.reflect.Method;
import java.lang.reflect.Modifier;
import java.nio.file.DirectoryStream;
import java.nio.file.Files;
import java.nio.file.Path;
import java.util.ArrayList;
import java.util.List;
import java.util.TreeSet;
import java.util.regex.Matcher;
import java.util.regex.Pattern;

/** What README.md says of the class and of its tests; run from the project's directory, as .ci/run does. */
public final class ReadmeTest {
    private static final Pattern NEW_OBJECT = Pattern.compile("BitStreams streams = new BitStreams\\(\\);");
    private static final Pattern CALL =
            Pattern.compile("streams\\.(\\w+)\\((?:(\\w+), )?(\\w+)\\); +// ([^: ]+)(:.*)?");
    private static final Pattern MACHINE =
            Pattern.compile("\\| (\\d+) +\\|[^|]+\\| (\\d+)(?: \\.\\. (\\d+))? bytes +\\| (\\d+) bytes +\\|");
    private static final Pattern FACE = Pattern.compile("\\| `(\\w+) (\\w+)\\(([^)]*)\\)` +\\|[^|]+\\|([^|]+)\\|");
    private static final Pattern WIDTHS = Pattern.compile("n is not (\\d+) \\.\\. (\\d+)");
    private static final Pattern MOST_BYTES = Pattern.compile("more than (\\d+)");
    private static final Pattern TEST = Pattern.compile("\\| `(\\w+Test)` +\\|[^|]+\\|");

    private final Check check = new Check();
    private final List<String> lines;

    private ReadmeTest(List<String> lines) {
        this.lines = lines;
    }

    public static void main(String[] args) throws IOException {
        ReadmeTest test = new ReadmeTest(Files.readAllLines(Path.of("README.md")));
        test.examples();
        test.sizes();
        test.calls();
        test.widths();
        test.mostBytes();
        test.listOfTests();
        test.check.end();
    }

    private List<Matcher> rows(Pattern form) {
        List<Matcher> found = new ArrayList<>();
        for (String line : lines) {
            Matcher row = form.matcher(line);
            if (row.matches()) {
                found.add(row);
            }
        }
        return found;
    }

    private void examples() {
        check.says("README: What each call answers stands behind it");
        BitStreams streams = null;
        boolean inside = false;
        int examples = 0;
        for (String line : lines) {
            if (line.startsWith("```")) {
                inside = line.equals("```java");
                examples += inside ? 1 : 0;
            } else if (inside && NEW_OBJECT.matcher(line).matches()) {
                streams = new BitStreams();
            } else if (inside) {
                exampleLine(streams, line);
            }
        }
        check.due("examples", examples, 2);
    }

    private void exampleLine(BitStreams streams, String line) {
        Matcher call = CALL.matcher(line);
        check.due("the form of '" + line + "'", call.matches(), true);
        if (call.matches()) {
            long v = call.group(2) == null ? 0L : number(call.group(2));
            long got = new Call(call.group(1), v, (int) number(call.group(3))).answer(streams);
            check.due(line, got, number(call.group(4)));
        }
    }

    private static long number(String text) {
        if (text.equals("true") || text.equals("false")) {
            return text.equals("true") ? 1 : 0;
        }
        return Long.decode(text.endsWith("L") ? text.substring(0, text.length() - 1) : text);
    }

    private void sizes() {
        check.says("README: the machines, their keys and starts");
        List<Matcher> machines = rows(MACHINE);
        check.due("machines", machines.size(), 4);
        for (int number = -1; number <= machines.size(); number++) {
            for (int key = 0; key <= 32; key++) {
                for (int start = 0; start <= 12; start++) {
                    String call = "begin(" + number + ") with " + key + " and " + start;
                    check.due(call, Feed.holding(key, start).begin(number), isListed(machines, number, key, start));
                }
            }
        }
    }

    private static boolean isListed(List<Matcher> machines, int number, int key, int start) {
        for (Matcher row : machines) {
            int least = Integer.parseInt(row.group(2));
            int most = row.group(3) == null ? least : Integer.parseInt(row.group(3));
            boolean sizes = key >= least && key <= most && start == Integer.parseInt(row.group(4));
            if (Integer.parseInt(row.group(1)) == number && sizes) {
                return true;
            }
        }
        return false;
    }

    private void calls() {
        check.says("README: All calls");
        TreeSet<String> told = new TreeSet<>();
        for (Matcher row : rows(FACE)) {
            String types = row.group(3).replaceAll("(\\w+) \\w+", "$1").replace(" ", "");
            told.add("public " + row.group(1) + " BitStreams." + row.group(2) + "(" + types + ")");
        }
        TreeSet<String> face = new TreeSet<>();
        for (Method method : BitStreams.class.getDeclaredMethods()) {
            if (Modifier.isPublic(method.getModifiers())) {
                face.add(method.toString());
            }
        }
        check.due("the calls", told.toString(), face.toString());
    }

    private void widths() {
        check.says("README: n is not .. [when calls are refused]");
        int told = 0;
        for (Matcher row : rows(FACE)) {
            Matcher range = WIDTHS.matcher(row.group(4));
            if (range.find()) {
                told++;
                int least = Integer.parseInt(range.group(1));
                int most = Integer.parseInt(range.group(2));
                check.due(row.group(2) + " of " + (least - 1), isTaken(row.group(2), least - 1), false);
                check.due(row.group(2) + " of " + least, isTaken(row.group(2), least), true);
                check.due(row.group(2) + " of " + most, isTaken(row.group(2), most), true);
                check.due(row.group(2) + " of " + (most + 1), isTaken(row.group(2), most + 1), false);
            }
        }
        check.due("calls with such a limit", told, 5);
    }

    private static boolean isTaken(String name, int n) {
        BitStreams x = Feed.begun(0);
        long answer = new Call(name, 1L, n).answer(x);
        return name.equals("bits") || name.equals("mix") ? x.count(3) == n && n > 0 : answer == 1;
    }

    private void mostBytes() {
        check.says("README: there would be more than ..");
        int told = 0;
        for (Matcher row : rows(FACE)) {
            Matcher limit = MOST_BYTES.matcher(row.group(4));
            if (limit.find()) {
                told++;
                BitStreams x = new BitStreams();
                int bytes = 0;
                while (bytes < 100 && new Call(row.group(2), 1L, 1).answer(x) == 1) {
                    bytes++;
                }
                check.due("bytes that " + row.group(2) + " takes", bytes, Integer.parseInt(limit.group(1)));
            }
        }
        check.due("calls with such a limit", told, 2);
    }

    private void listOfTests() throws IOException {
        check.says("README: the list of tests");
        TreeSet<String> told = new TreeSet<>();
        for (Matcher row : rows(TEST)) {
            told.add(row.group(1) + ".java");
        }
        TreeSet<String> files = new TreeSet<>();
        try (DirectoryStream<Path> tests = Files.newDirectoryStream(Path.of("src/test/java"), "*Test.java")) {
            for (Path file : tests) {
                files.add(file.getFileName().toString());
            }
        }
        check.due("tests", told.toString(), files.toString());
    }
}
