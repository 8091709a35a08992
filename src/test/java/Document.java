import java.io.IOException;
import java.nio.file.Files;
import java.nio.file.Path;
import java.util.ArrayList;
import java.util.LinkedHashMap;
import java.util.List;
import java.util.Map;

/** The sentences of the document by their sections: those of "Terms" (PORTS ..) and the promises. */
final class Document {
    private final Map<String, StringBuilder> texts = new LinkedHashMap<>();
    private final Map<String, List<String>> sentences = new LinkedHashMap<>();
    private final Map<String, List<String>> named = new LinkedHashMap<>();

    Document(Path file) throws IOException {
        String section = "";
        boolean terms = false;
        for (String line : Files.readAllLines(file)) {
            if (line.startsWith("## ")) {
                terms = line.equals("## Terms");
                section = line.startsWith("## Promise ") ? line.substring(3).replaceAll(":.*", "") : "";
            } else if (terms && line.matches("[A-Z ]+")) {
                section = line;
            } else if (!section.isEmpty() && !line.isBlank()) {
                take(section, line.strip());
            }
        }
    }

    /** Without the numbers of steps, and what FaceTest tests: the heads of methods and the words ahead of them. */
    private void take(String section, String line) {
        if (line.startsWith("Ahead of the calls")) {
            return;
        }
        String words = line.replaceAll("^\\d\\. ", "").replaceAll("^`[^`]*\\)`: ", "").replaceAll("^- ", "");
        texts.computeIfAbsent(section, s -> new StringBuilder()).append(words).append(' ');
        List<String> found = sentences.computeIfAbsent(section, s -> new ArrayList<>());
        for (String sentence : words.startsWith("`") ? new String[] {words} : words.split("(?<=[.;:])\\s+")) {
            found.add(sentence.replaceAll("[.;:]$", ""));
        }
    }

    /** Whether the words stand in the section; they count as named then. */
    boolean name(String section, String words) {
        named.computeIfAbsent(section, s -> new ArrayList<>()).add(words);
        return texts.containsKey(section) && texts.get(section).indexOf(words) >= 0;
    }

    /** The sentences of which no test has named any words. */
    List<String> unnamed() {
        List<String> left = new ArrayList<>();
        sentences.forEach((section, all) -> {
            for (String sentence : all) {
                if (named.getOrDefault(section, List.of()).stream()
                        .noneMatch(words -> words.contains(sentence) || sentence.contains(words))) {
                    left.add(section + ": " + sentence);
                }
            }
        });
        return left;
    }
}
