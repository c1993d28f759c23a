import java.io.IOException;
import java.lang.reflect.Method;
import java.nio.file.Files;
import java.nio.file.Path;
import java.util.HashMap;
import java.util.List;
import java.util.Map;
import java.util.Set;
import java.util.TreeSet;
import java.util.regex.Matcher;
import java.util.regex.Pattern;
import java.util.stream.Collectors;
import java.util.stream.Stream;

/** README.md: its calls give the answers beside them, its command for the tests is .ci/run, its table is whole. */
public final class ReadmeTest {
    private static final Check CHECK = new Check();
    private static final Pattern CALL =
        Pattern.compile("(?:int (\\w+) = )?lifts\\.(\\w+)\\(([^)]*)\\);\\s*// (-?\\d+), .*");
    private static final Pattern ROW = Pattern.compile("\\| `(\\w+Test)` \\|.*");

    public static void main(String[] args) throws IOException, ReflectiveOperationException {
        List<String> lines = Files.readAllLines(Path.of("README.md"));
        callsAnswer(between(lines, "```java", "```"));
        commandIsTheScript(between(lines, "## How to run its tests", "It needs"));
        tableIsWhole(lines);
        CHECK.end("ReadmeTest");
    }

    private static List<String> between(List<String> lines, String first, String last) {
        int from = lines.indexOf(first) + 1;
        CHECK.due("README.md has the line " + first, from > 0 ? 1 : 0, 1);
        return lines.stream().skip(from).takeWhile(line -> !line.startsWith(last)).toList();
    }

    private static void callsAnswer(List<String> code) throws ReflectiveOperationException {
        CHECK.due("README.md makes the object first",
            !code.isEmpty() && code.get(0).equals("GoalLifts lifts = new GoalLifts();") ? 1 : 0, 1);
        GoalLifts lifts = new GoalLifts();
        Map<String, Integer> known = new HashMap<>();
        for (String line : code.subList(Math.min(1, code.size()), code.size())) {
            Matcher call = CALL.matcher(line);
            boolean read = call.matches();
            CHECK.due("README.md names the answer of: " + line, read ? 1 : 0, 1);
            if (read) {
                int answer = answer(lifts, call.group(2), call.group(3), known);
                CHECK.due("README.md: " + line.strip(), answer, Integer.parseInt(call.group(4)));
                known.put(String.valueOf(call.group(1)), answer);
            }
        }
    }

    private static int answer(GoalLifts lifts, String name, String arguments, Map<String, Integer> known)
            throws ReflectiveOperationException {
        Object[] values = Stream.of(arguments.split(", *")).filter(text -> !text.isEmpty())
            .map(text -> known.containsKey(text) ? known.get(text) : Integer.valueOf(text)).toArray();
        Class<?>[] types = Stream.of(values).map(value -> int.class).toArray(Class<?>[]::new);
        Method method = GoalLifts.class.getMethod(name, types);
        return (int) method.invoke(lifts, values);
    }

    private static void commandIsTheScript(List<String> lines) {
        List<String> commands = lines.stream().filter(line -> line.startsWith("    ")).map(String::strip).toList();
        CHECK.due("README.md names the command .ci/run alone: " + commands,
            commands.equals(List.of(".ci/run")) ? 1 : 0, 1);
        CHECK.due(".ci/run is executable", Files.isExecutable(Path.of(".ci/run")) ? 1 : 0, 1);
    }

    private static void tableIsWhole(List<String> lines) throws IOException {
        Set<String> named = lines.stream().map(ROW::matcher).filter(Matcher::matches).map(row -> row.group(1))
            .collect(Collectors.toCollection(TreeSet::new));
        try (Stream<Path> files = Files.list(Path.of("src/test/java"))) {
            Set<String> tests = files.map(file -> file.getFileName().toString())
                .filter(name -> name.endsWith("Test.java")).map(name -> name.replace(".java", ""))
                .collect(Collectors.toCollection(TreeSet::new));
            CHECK.due("README.md names the tests " + tests + ", it has " + named, named.equals(tests) ? 1 : 0, 1);
        }
    }
}
