import java.io.IOException;
import java.nio.file.Files;
import java.nio.file.Path;
import java.util.LinkedHashMap;
import java.util.Map;

/** DOC.md by its sections, and what of it the tests quote. */
final class Document {
    private final Map<String, StringBuilder> texts = new LinkedHashMap<>();
    private final Map<String, boolean[]> quoted = new LinkedHashMap<>();

    static Document read(Path path) throws IOException {
        Document made = new Document();
        String section = "";
        for (String line : Files.readAllLines(path)) {
            if (line.startsWith("## ")) {
                // "Promise 2: feed" is told as "Promise 2".
                section = line.substring(3).replaceAll(":.*", "");
                section = section.equals("Terms") ? "Terms 1" : section;
            } else if (line.startsWith("==== ")) {
                section = "Terms " + line.charAt(5);
                made.add(section, line.substring(7));
            } else if (!line.startsWith("```") && !line.startsWith("Ahead of the calls")) {
                made.add(section, line);
            }
        }
        return made;
    }

    private void add(String section, String line) {
        // A promise begins with the call's head, which FaceTest looks at.
        String told = section.startsWith("Promise") ? line.replaceFirst("^`[^`]*`: ", "") : line;
        texts.computeIfAbsent(section, s -> new StringBuilder()).append(' ').append(told);
    }

    static String plain(String text) {
        return text.replaceAll("\\s+", " ").trim();
    }

    /** Whether the section has the words; they are marked as quoted, wherever they stand in it. */
    boolean quote(String section, String words) {
        if (!texts.containsKey(section)) {
            return false;
        }
        String text = plain(texts.get(section).toString());
        boolean[] marks = quoted.computeIfAbsent(section, s -> new boolean[text.length()]);
        String sought = plain(words);
        int at = text.indexOf(sought);
        boolean found = at >= 0;
        while (at >= 0) {
            for (int i = at; i < at + sought.length(); i++) {
                marks[i] = true;
            }
            at = text.indexOf(sought, at + 1);
        }
        return found;
    }

    /** Words of the section that no test quotes; an empty text, if there are none. */
    String unquoted(String section) {
        String text = plain(texts.get(section).toString());
        boolean[] marks = quoted.getOrDefault(section, new boolean[text.length()]);
        StringBuilder left = new StringBuilder();
        for (int i = 0; i < text.length(); i++) {
            boolean open = !marks[i] && Character.isLetterOrDigit(text.charAt(i));
            left.append(open ? text.charAt(i) : ' ');
        }
        return plain(left.toString());
    }

    Iterable<String> sections() {
        return texts.keySet();
    }
}
