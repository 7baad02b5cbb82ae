import java.io.IOException;
import java.nio.file.Files;
import java.nio.file.Path;
import java.util.ArrayList;
import java.util.LinkedHashMap;
import java.util.List;
import java.util.Map;

/**
 * The sentences of the document, each under the place where it stands: "Section 1", "Promise 2". A row of a
 * table is cut into its parts, which stand under "Section 3 login" or "Section 5 code 2".
 */
final class Doc {
    private static final Path FILE = Path.of("../shared/DOC.md");

    private final Map<String, List<String>> sentences = new LinkedHashMap<>();
    private String place = "";
    private boolean inTable = false;

    static Map<String, List<String>> sentences() {
        Doc doc = new Doc();
        try {
            for (String line : Files.readAllLines(FILE)) {
                doc.read(line);
            }
        } catch (IOException e) {
            throw new IllegalStateException("the document can't be read", e);
        }
        return doc.sentences;
    }

    static String plain(String sentence) {
        String text = sentence.replaceAll("\\s+", " ").trim();
        return text.endsWith(".") ? text.substring(0, text.length() - 1) : text;
    }

    private void read(String line) {
        if (line.startsWith("```")) {
            inTable = !inTable;
        } else if (line.startsWith("## ")) {
            place = line.substring("## ".length()).split(":")[0];
        } else if (!inTable && line.matches("\\d\\. .*")) {
            place = "Section " + line.charAt(0);
        } else if (place.equals("What it is") || place.startsWith("Section") || place.startsWith("Promise")) {
            readText(line);
        }
    }

    private void readText(String line) {
        String text = line.trim();
        if (inTable && place.equals("Section 3")) {
            String word = text.split(" ")[0];
            put(place + " " + word, text.substring(text.indexOf(':') + 1).split("; |\\. "));
        } else if (inTable && text.matches("\\d .*")) {
            put(place + " code " + text.charAt(0), text.substring(1).split("; "));
        } else if (inTable) {
            put(place, text);
        } else {
            put(place, text.replaceFirst("^`[^`]*`: ", "").split("(?<=\\.)\\s+(?=[A-Z])"));
        }
    }

    private void put(String key, String... texts) {
        for (String text : texts) {
            if (!text.isBlank()) {
                sentences.computeIfAbsent(key, k -> new ArrayList<>()).add(plain(text));
            }
        }
    }
}
