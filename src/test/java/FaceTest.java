import java.io.IOException;
import java.lang.reflect.Constructor;
import java.lang.reflect.Field;
import java.lang.reflect.Method;
import java.lang.reflect.Modifier;
import java.nio.file.Files;
import java.nio.file.Path;
import java.util.ArrayList;
import java.util.List;
import java.util.TreeSet;
import java.util.regex.Matcher;
import java.util.regex.Pattern;
import java.util.stream.Collectors;
import java.util.stream.Stream;

/**
 * The public face is the one that the document writes, and nothing else; the calls stand under the heads that it names.
 * Its arguments are the document and the class, if they are not where they always are.
 */
public final class FaceTest {
    private static final Pattern HEAD = Pattern.compile("Ahead of the calls (.*) the interface says: ---- (.*)\\.");
    private static final int MEMBERS = 4 + 1 + 22;

    private static final Checks checks = new Checks("FaceTest");

    public static void main(String[] args) throws IOException, IllegalAccessException {
        String document = Files.readString(Path.of(args.length > 0 ? args[0] : "../shared/DOC.md"));
        String code = Files.readString(Path.of(args.length > 1 ? args[1] : "src/main/java/LearningRepeater.java"));
        checks.promise("the public face");
        String block = document.substring(document.indexOf("```java") + 7, document.lastIndexOf("```"));
        checks.same("the class", classOf(LearningRepeater.class), block.strip().split(" \\{")[0]);
        checks.due("members that the document writes", written(block).size(), MEMBERS);
        checks.same("the members", String.join("\n", members()), String.join("\n", written(block)));
        heads(document, code);
        checks.end();
    }

    private static String classOf(Class<?> type) {
        return Modifier.toString(type.getModifiers()) + " class " + type.getName();
    }

    /** Without the names of parameters. */
    private static TreeSet<String> written(String block) {
        return block.lines().map(String::strip).filter(line -> line.endsWith(";"))
                .map(line -> line.substring(0, line.length() - 1).replaceAll("(\\w+) \\w+(?=[,)])", "$1"))
                .collect(Collectors.toCollection(TreeSet::new));
    }

    private static TreeSet<String> members() throws IllegalAccessException {
        TreeSet<String> found = new TreeSet<>();
        for (Field field : LearningRepeater.class.getDeclaredFields()) {
            if (!Modifier.isPrivate(field.getModifiers())) {
                boolean constant = Modifier.isStatic(field.getModifiers());
                found.add(Modifier.toString(field.getModifiers()) + " " + field.getType().getSimpleName() + " "
                        + field.getName() + (constant ? " = " + field.get(null) : ""));
            }
        }
        for (Method method : LearningRepeater.class.getDeclaredMethods()) {
            if (!Modifier.isPrivate(method.getModifiers())) {
                found.add(Modifier.toString(method.getModifiers()) + " " + method.getReturnType().getSimpleName() + " "
                        + method.getName() + types(method.getParameterTypes()));
            }
        }
        for (Constructor<?> constructor : LearningRepeater.class.getDeclaredConstructors()) {
            found.add(Modifier.toString(constructor.getModifiers()) + " " + constructor.getName()
                    + types(constructor.getParameterTypes()));
        }
        return found;
    }

    private static String types(Class<?>[] types) {
        return Stream.of(types).map(Class::getSimpleName).collect(Collectors.joining(", ", "(", ")"));
    }

    private static void heads(String document, String code) {
        checks.promise("the heads of the calls");
        List<String> due = new ArrayList<>();
        Matcher head = HEAD.matcher(document);
        while (head.find()) {
            due.add(head.group(2) + ": " + head.group(1).replace("`", ""));
        }
        List<String> found = new ArrayList<>();
        String[] parts = code.split("// ---- ");
        for (int part = 1; part < parts.length; part++) {
            String calls = Pattern.compile("(?m)^    public int (\\w+)\\(").matcher(parts[part]).results()
                    .map(call -> call.group(1)).collect(Collectors.joining(", "));
            found.add(parts[part].lines().findFirst().orElse("") + ": " + calls);
        }
        checks.same("the heads and the calls under each", String.join("\n", found), String.join("\n", due));
    }
}
