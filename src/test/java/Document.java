import java.io.IOException;
import java.nio.file.Files;
import java.nio.file.Path;
import java.util.ArrayList;
import java.util.LinkedHashMap;
import java.util.List;
import java.util.Map;

/** The words of ../shared/DOC.md by its headings, and which of them a test has quoted. */
final class Document {
    private final Map<String, String> words = new LinkedHashMap<>();
    private final Map<String, boolean[]> quoted = new LinkedHashMap<>();

    Document(Path file) throws IOException {
        String heading = "";
        StringBuilder text = new StringBuilder();
        for (String line : Files.readAllLines(file)) {
            if (line.startsWith("## ")) {
                keep(heading, text);
                heading = line.substring(3).trim();
                text.setLength(0);
            } else if (!line.startsWith("Ahead of the calls")) {
                // The headings inside the interface are no sentences.
                text.append(line).append(' ');
            }
        }
        keep(heading, text);
    }

    /** Without fences and signatures: they are no sentences. */
    private void keep(String heading, StringBuilder text) {
        String plain = oneLine(text.toString().replace("```text", " ").replace("```", " ").replaceAll("`[^`]*`", " "));
        words.put(heading, plain);
        quoted.put(heading, new boolean[plain.length()]);
    }

    private static String oneLine(String text) {
        return text.replaceAll("\\s+", " ").trim();
    }

    /** Marks the words, wherever they stand under the heading; false, if they don't. */
    boolean quote(String heading, String says) {
        String text = words.get(heading);
        String part = oneLine(says);
        if (text == null || part.isEmpty() || !text.contains(part)) {
            return false;
        }
        for (int at = text.indexOf(part); at >= 0; at = text.indexOf(part, at + 1)) {
            for (int i = 0; i < part.length(); i++) {
                quoted.get(heading)[at + i] = true;
            }
        }
        return true;
    }

    /** What nobody has quoted under the headings that promise something. */
    List<String> unquoted() {
        List<String> all = new ArrayList<>();
        for (Map.Entry<String, String> section : words.entrySet()) {
            if (promises(section.getKey())) {
                addUnquoted(all, section.getKey(), section.getValue());
            }
        }
        return all;
    }

    private static boolean promises(String heading) {
        return heading.equals("What it is") || heading.equals("Terms") || heading.startsWith("Promise ");
    }

    private void addUnquoted(List<String> all, String heading, String text) {
        StringBuilder rest = new StringBuilder();
        for (int i = 0; i <= text.length(); i++) {
            if (i < text.length() && !quoted.get(heading)[i]) {
                rest.append(text.charAt(i));
            } else {
                // Marks between two sentences, and the numbers of the parts, say nothing.
                if (rest.chars().anyMatch(Character::isLetter)) {
                    all.add(heading + " | " + rest.toString().trim());
                }
                rest.setLength(0);
            }
        }
    }
}
