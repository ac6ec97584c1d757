import java.io.IOException;
import java.lang.reflect.Method;
import java.lang.reflect.Modifier;
import java.nio.file.Files;
import java.nio.file.Path;
import java.util.Set;
import java.util.TreeSet;
import java.util.regex.Matcher;
import java.util.regex.Pattern;
import java.util.stream.Stream;

/** README.md: the calls that it shows answer what it says, and its tables leave nothing out. */
public final class ReadmeTest {
    private static final String README = Document.read("README.md");
    private static final String NEW_OBJECT = "GracefulRestart router = new GracefulRestart();";
    private static final Pattern CALL = Pattern.compile("router\\.(\\w+\\([^)]*\\)); +// (-?\\d+)(: .*)?");

    public static void main(String[] args) throws Exception {
        shownCalls();
        namedConstants();
        tableOfCalls();
        tableOfConstants();
        tableOfTests();
        waysToRun();
        Checks.finish();
    }

    private static void shownCalls() {
        int blocks = 0;
        Matcher block = Pattern.compile("(?s)```java\n(.*?)```").matcher(README);
        while (block.find()) {
            blocks++;
            GracefulRestart router = null;
            for (String line : block.group(1).split("\n")) {
                Matcher call = CALL.matcher(line);
                if (line.equals(NEW_OBJECT)) {
                    router = new GracefulRestart();
                } else if (router != null && call.matches()) {
                    Checks.due("README: " + call.group(1), Script.ask(router, call.group(1)),
                        Integer.parseInt(call.group(2)));
                } else {
                    Checks.holds("README shows a call with its answer: " + line, false);
                }
            }
        }
        Checks.due("blocks of calls", blocks, 3);
    }

    /** Where an answer is told by the name of a constant too, name and number are the same. */
    private static void namedConstants() throws ReflectiveOperationException {
        Matcher named = Pattern.compile("// (-?\\d+): ([A-Z_]+)\\b").matcher(README);
        int count = 0;
        while (named.find()) {
            count++;
            Checks.due("README: " + named.group(2), Integer.parseInt(named.group(1)), constant(named.group(2)));
        }
        Checks.holds("README names answers by constants", count > 0);
    }

    private static void tableOfCalls() {
        Set<String> due = new TreeSet<>();
        for (Method method : GracefulRestart.class.getDeclaredMethods()) {
            if (Modifier.isPublic(method.getModifiers())) {
                due.add(method.getName());
            }
        }
        Set<String> shown = new TreeSet<>();
        Matcher row = Pattern.compile("(?m)^\\| `((\\w+)\\([^)]*\\))` \\| .* \\|$").matcher(README);
        while (row.find()) {
            shown.add(row.group(2));
            Checks.holds("the document has int " + row.group(1), Document.TEXT.contains("int " + row.group(1) + ";"));
        }
        Checks.holds("README lists the calls " + due + ", not " + shown, due.equals(shown));
    }

    private static void tableOfConstants() throws ReflectiveOperationException {
        int rows = 0;
        Matcher row = Pattern.compile("(?m)^\\| `(\\w+)` \\| (-?\\d+) \\| .* \\|$").matcher(README);
        while (row.find()) {
            rows++;
            Checks.due("README: " + row.group(1), Integer.parseInt(row.group(2)), constant(row.group(1)));
        }
        Checks.due("rows of constants", rows, 11);
    }

    private static int constant(String name) throws ReflectiveOperationException {
        return GracefulRestart.class.getField(name).getInt(null);
    }

    private static void tableOfTests() throws IOException {
        Set<String> due = new TreeSet<>();
        try (Stream<Path> files = Files.list(Path.of("src/test/java"))) {
            files.map(file -> file.getFileName().toString()).forEach(due::add);
        }
        Set<String> shown = new TreeSet<>();
        Matcher row = Pattern.compile("(?m)^\\| `(\\w+Test)` \\| .* \\|$").matcher(README);
        while (row.find()) {
            shown.add(row.group(1) + ".java");
        }
        Matcher helper = Pattern.compile("`(\\w+\\.java)`").matcher(README);
        while (helper.find()) {
            shown.add(helper.group(1));
        }
        Checks.holds("README tells of " + due + ", not " + shown, due.equals(shown));
    }

    private static void waysToRun() {
        Checks.holds("README tells of .ci/run", README.contains("\n    .ci/run\n"));
        Checks.holds(".ci/run can be run", Files.isExecutable(Path.of(".ci/run")));
    }
}
