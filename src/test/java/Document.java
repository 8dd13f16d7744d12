import java.io.IOException;
import java.nio.charset.StandardCharsets;
import java.nio.file.Files;
import java.nio.file.Path;
import java.util.ArrayList;
import java.util.List;
import java.util.Map;
import java.util.TreeMap;

/** The sentences of DOC.md by promise (0: those of "Terms"), and which of their words a test has quoted. */
final class Document {
    private static final Path FILE = Path.of("../shared/DOC.md");

    private final Map<Integer, String> sections = new TreeMap<>();
    private final Map<Integer, boolean[]> quoted = new TreeMap<>();

    Document() throws IOException {
        String title = "";
        StringBuilder text = new StringBuilder();
        for (String line : Files.readAllLines(FILE, StandardCharsets.UTF_8)) {
            if (line.startsWith("## ")) {
                keep(title, text.toString());
                title = line.substring(3);
                text.setLength(0);
            } else if (!line.startsWith("```") && !line.startsWith("Ahead of the calls")) {
                text.append(' ').append(line);
            }
        }
        keep(title, text.toString());
    }

    private void keep(String title, String text) {
        String plain = text.replaceAll("======== \\d ", "").replaceAll("\\s+", " ").trim();
        if (title.equals("Terms")) {
            sections.put(0, plain);
        } else if (title.startsWith("Promise ")) {
            int promise = Integer.parseInt(title.substring(8, title.indexOf(':')));
            sections.put(promise, plain.substring(plain.indexOf("`: ") + 3));
        }
    }

    int size() {
        return sections.size();
    }

    /** Whether these words stand there; they are then quoted, wherever they stand as words of their own. */
    boolean quote(int promise, String words) {
        String text = sections.getOrDefault(promise, "");
        boolean[] marks = quoted.computeIfAbsent(promise, p -> new boolean[text.length()]);
        boolean found = false;
        for (int i = text.indexOf(words); i >= 0; i = text.indexOf(words, i + 1)) {
            found = true;
            for (int j = i; j < i + words.length(); j++) {
                marks[j] = true;
            }
        }
        return found;
    }

    /** What no test has quoted. */
    List<String> left() {
        List<String> left = new ArrayList<>();
        for (Map.Entry<Integer, String> section : sections.entrySet()) {
            String text = section.getValue();
            boolean[] marks = quoted.getOrDefault(section.getKey(), new boolean[text.length()]);
            StringBuilder run = new StringBuilder();
            for (int i = 0; i <= text.length(); i++) {
                if (i < text.length() && !marks[i]) {
                    run.append(text.charAt(i));
                    continue;
                }
                if (run.chars().anyMatch(Character::isLetterOrDigit)) {
                    left.add("promise " + section.getKey() + ": " + run.toString().trim());
                }
                run.setLength(0);
            }
        }
        return left;
    }
}
