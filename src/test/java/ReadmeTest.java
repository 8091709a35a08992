import java.io.IOException;
import java.lang.reflect.Method;
import java.lang.reflect.Modifier;
import java.nio.file.Files;
import java.nio.file.Path;
import java.util.Map;
import java.util.TreeMap;
import java.util.TreeSet;
import java.util.regex.Matcher;
import java.util.regex.Pattern;
import java.util.stream.Collectors;
import java.util.stream.Stream;

/** README.md: its examples answer what stands behind them, and its tables name every call and every test. */
public final class ReadmeTest {
    private static final Pattern BLOCK = Pattern.compile("(?s)```java\n(.*?)```");
    private static final Pattern CALL = Pattern.compile("repeater\\.(\\w+\\(.*\\)); +// (-?\\d+)(?::.*)?");
    private static final Pattern SIGN = Pattern.compile("'(.)'");
    private static final Pattern PROMISED = Pattern.compile("(?m)^\\| (`.*) \\| .* \\| ([0-9, ]+) \\|$");
    private static final Pattern NAME = Pattern.compile("`(\\w+)\\(");
    private static final Pattern TEST = Pattern.compile("(?m)^\\| `(\\w+Test)` \\|");
    private static final Pattern TITLE = Pattern.compile("(?m)^## Promise (\\d+): (\\w+)$");

    private static final Checks checks = new Checks("ReadmeTest");

    public static void main(String[] args) throws IOException {
        String readme = Files.readString(Path.of(args.length > 0 ? args[0] : "README.md"));
        String document = Files.readString(Path.of("../shared/DOC.md"));
        examples(readme);
        calls(readme, document);
        tests(readme);
        checks.end();
    }

    private static void examples(String readme) {
        checks.promise("the examples");
        int blocks = 0;
        Matcher block = BLOCK.matcher(readme);
        while (block.find()) {
            blocks++;
            String[] lines = block.group(1).split("\n");
            checks.same("the first line", lines[0], "LearningRepeater repeater = new LearningRepeater();");
            Run run = new Run(checks);
            for (int line = 1; line < lines.length; line++) {
                Matcher call = CALL.matcher(lines[line]);
                checks.due("whether \"" + lines[line] + "\" is a call with its answer,", call.matches() ? 1 : 0, 1);
                if (call.matches()) {
                    String numbers = SIGN.matcher(call.group(1)).replaceAll(sign -> "" + (int) sign.group(1).charAt(0));
                    run.answers(numbers + "=" + call.group(2));
                }
            }
        }
        checks.due("whether there are examples,", blocks > 0 ? 1 : 0, 1);
    }

    /** Each call of the class stands in the table, with the number that the document gives it. */
    private static void calls(String readme, String document) {
        checks.promise("the calls");
        Map<String, String> named = new TreeMap<>();
        Matcher row = PROMISED.matcher(readme);
        while (row.find()) {
            String[] promises = row.group(2).split(", ");
            String[] names = NAME.matcher(row.group(1)).results().map(name -> name.group(1)).toArray(String[]::new);
            checks.due("promises of " + row.group(1), promises.length, names.length);
            for (int k = 0; k < Math.min(names.length, promises.length); k++) {
                named.put(names[k], promises[k]);
            }
        }
        Map<String, String> promised = new TreeMap<>();
        Matcher title = TITLE.matcher(document);
        while (title.find()) {
            promised.put(title.group(2), title.group(1));
        }
        checks.same("the calls of the table and their promises", named.toString(), promised.toString());
        TreeSet<String> methods = Stream.of(LearningRepeater.class.getDeclaredMethods())
                .filter(method -> Modifier.isPublic(method.getModifiers())).map(Method::getName)
                .collect(Collectors.toCollection(TreeSet::new));
        checks.same("the calls of the table", named.keySet().toString(), methods.toString());
    }

    private static void tests(String readme) throws IOException {
        checks.promise("the tests");
        TreeSet<String> named = TEST.matcher(readme).results().map(test -> test.group(1))
                .collect(Collectors.toCollection(TreeSet::new));
        try (Stream<Path> files = Files.list(Path.of("src/test/java"))) {
            TreeSet<String> found = files.map(file -> file.getFileName().toString())
                    .filter(name -> name.endsWith("Test.java")).map(name -> name.replace(".java", ""))
                    .collect(Collectors.toCollection(TreeSet::new));
            checks.same("the tests of the table", named.toString(), found.toString());
        }
    }
}
