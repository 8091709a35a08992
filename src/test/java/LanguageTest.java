import java.io.IOException;
import java.nio.file.Files;
import java.nio.file.Path;
import java.util.ArrayDeque;
import java.util.Deque;
import java.util.Set;
import java.util.regex.Matcher;
import java.util.regex.Pattern;

/** Rules of LANGUAGE.md that can be seen in the text of the class; its first argument is the file. */
public final class LanguageTest {
    private static final String[] FORBIDDEN = {
        "\\bpackage\\b", "\\bthrow", "\\btry\\b", "\\bcatch\\b", "\\bfinally\\b", "\\bsynchronized\\b", "\\bassert\\b",
        "->", "::", "\\bObject\\b", "\\bThread\\b", "\\bSystem\\.(?!arraycopy\\b)", "Exact\\b", "\\bprotected\\b",
        "\\bequals\\b", "\\bhashCode\\b", "\\btoString\\b", "\\bvar\\b", "\\bRandom\\b", "\\bnative\\b",
        "\\bimport (?!java\\.util\\.Arrays;)", "\\bArrays\\.(?!fill\\b|copyOf\\b|copyOfRange\\b)",
        "[^\\x00-\\x7f]", "\\bnew \\w+\\([^)]*\\) *\\{",
    };
    private static final int MOST_CLASSES = 12;
    private static final int MOST_LINES = 60;
    private static final int MOST_PARAMETERS = 7;

    private static final Checks checks = new Checks("LanguageTest");

    public static void main(String[] args) throws IOException {
        String file = args.length > 0 ? args[0] : "src/main/java/LearningRepeater.java";
        String code = withoutComments(Files.readString(Path.of(file)));
        forbidden(code);
        classes(code);
        statics(code);
        methods(code);
        checks.end();
    }

    private static String withoutComments(String code) {
        return code.replaceAll("(?s)/\\*.*?\\*/", "").replaceAll("//[^\n]*", "");
    }

    private static void forbidden(String code) {
        checks.promise("words");
        for (String word : FORBIDDEN) {
            Matcher found = Pattern.compile(word).matcher(code);
            checks.same("the first " + word, found.find() ? found.group() : "none", "none");
        }
    }

    private static void classes(String code) {
        checks.promise("rules 1, 2 and 11");
        int classes = 0;
        int nestedStatics = 0;
        Matcher found = Pattern.compile("(?m)^(.*)\\b(?:class|interface|enum|record) \\w+").matcher(code);
        while (found.find()) {
            classes++;
            nestedStatics += found.group(1).equals("    private static final ") ? 1 : 0;
        }
        checks.due("nested classes that are not private static final", classes - 1 - nestedStatics, 0);
        checks.due("at most " + MOST_CLASSES + " classes", classes <= MOST_CLASSES ? 1 : 0, 1);
    }

    private static void statics(String code) {
        checks.promise("rule 5");
        Matcher field = Pattern.compile("(?m)^ *(?:public |private )?static (?!final )[^(]*;").matcher(code);
        checks.same("the first static field that is not final", field.find() ? field.group() : "none", "none");
    }

    /** Method headers are told from calls by the brace behind them. */
    private static void methods(String code) {
        checks.promise("rules 1 and 11");
        Set<String> face = Set.of("setPort", "join", "part", "release", "set", "frame", "forget", "pass", "type",
                "clearText", "readFrames", "undo", "keep", "restore", "port", "account", "entry", "where", "queued",
                "wouldGo", "loops", "count");
        Pattern header = Pattern.compile("^ +(public |private )?(?:static )?(?:[\\w\\[\\]]+ )?(\\w+)\\(([^)]*)\\) \\{$");
        Deque<Integer> opened = new ArrayDeque<>();
        String[] lines = code.split("\n");
        for (int line = 0; line < lines.length; line++) {
            Matcher found = header.matcher(lines[line]);
            if (found.matches() && !lines[line].matches(" +(?:if|for|while|switch|\\} else).*")) {
                String name = found.group(2);
                boolean open = "public ".equals(found.group(1));
                checks.due(name + " is public and bears a name of the face, or neither",
                        open && !name.equals("LearningRepeater") ? 1 : 0, face.contains(name) ? 1 : 0);
                int parameters = found.group(3).isEmpty() ? 0 : found.group(3).split(",").length;
                checks.due("parameters of " + name, parameters <= MOST_PARAMETERS ? 1 : 0, 1);
                int end = endOf(lines, line);
                checks.due("lines of " + name, end - line <= MOST_LINES ? 1 : 0, 1);
                if (!Character.isUpperCase(name.charAt(0))) {
                    checks.due("lines of " + name + " that make an object", newsIn(lines, line, end), 0);
                }
                opened.push(line);
            }
        }
        checks.due("methods were found", opened.size() > face.size() ? 1 : 0, 1);
    }

    /** All calls of a run share one room: so only constructors make objects and arrays. */
    private static int newsIn(String[] lines, int start, int end) {
        int news = 0;
        for (int line = start; line < end && line < lines.length; line++) {
            news += lines[line].matches(".*\\b(?:new|clone|StringBuilder)\\b.*") ? 1 : 0;
        }
        return news;
    }

    private static int endOf(String[] lines, int start) {
        String indent = lines[start].replaceAll("\\S.*", "");
        for (int line = start; line < lines.length; line++) {
            if (lines[line].equals(indent + "}")) {
                return line;
            }
        }
        return Integer.MAX_VALUE;
    }
}
