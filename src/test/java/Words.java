import java.io.IOException;
import java.nio.file.Files;
import java.nio.file.Path;
import java.util.ArrayList;
import java.util.LinkedHashMap;
import java.util.List;
import java.util.Map;

/** The words of the document, section by section, and which of them a test has quoted. */
final class Words {
    private final Map<String, String> texts = new LinkedHashMap<>();
    private final Map<String, boolean[]> quoted = new LinkedHashMap<>();

    Words(Path document) throws IOException {
        String section = "";
        for (String line : Files.readAllLines(document)) {
            if (line.startsWith("## ")) {
                // 'Promise 2: dust' is called Promise 2.
                section = line.substring(3).replaceAll(":.*", "");
            } else if (!line.startsWith("```") && !line.startsWith("Ahead of the calls")) {
                texts.merge(section, plain(line), (a, b) -> (a + " " + b).trim());
            }
        }
        // The signature is FaceTest's.
        texts.replaceAll((name, text) -> text.replaceFirst("^`[^`]*`: ", ""));
        texts.forEach((name, text) -> quoted.put(name, new boolean[text.length()]));
    }

    private static String plain(String text) {
        return text.replaceAll("\\s+", " ").trim();
    }

    /** Whether a section has these words; they count as quoted then. */
    boolean quote(String section, String words) {
        String text = texts.getOrDefault(section, "");
        String sought = plain(words);
        int at = text.indexOf(sought);
        if (at < 0 || sought.isEmpty()) return false;
        for (int i = 0; i < sought.length(); i++) quoted.get(section)[at + i] = true;
        return true;
    }

    /** The words of the terms and of all promises that no test has quoted. */
    List<String> left() {
        List<String> left = new ArrayList<>();
        texts.forEach((section, text) -> {
            if (!section.equals("Terms") && !section.startsWith("Promise ")) return;
            StringBuilder rest = new StringBuilder();
            for (int i = 0; i < text.length(); i++) rest.append(quoted.get(section)[i] ? '\n' : text.charAt(i));
            for (String part : rest.toString().split("\n+")) {
                if (part.matches(".*[A-Za-z].*")) left.add(section + ": " + part.trim());
            }
        });
        return left;
    }
}
