import java.io.IOException;
import java.nio.charset.StandardCharsets;
import java.nio.file.Files;
import java.nio.file.Path;
import java.util.HashMap;
import java.util.Map;

/** The document by its headings, so that a sentence which a test quotes can be looked for where the test says it stands. */
final class Document {
    private static final Path PLACE = Path.of("..", "shared", "DOC.md");

    private final Map<String, StringBuilder> parts = new HashMap<>();

    /** The document; null if it is not there. */
    static Document read() {
        if (!Files.isReadable(PLACE)) {
            return null;
        }
        Document document = new Document();
        try {
            document.part(Files.readString(PLACE, StandardCharsets.UTF_8));
        } catch (IOException e) {
            return null;
        }
        return document;
    }

    private void part(String text) {
        String where = "";
        for (String line : text.split("\n")) {
            if (line.startsWith("## ")) {
                where = line.substring(3).replaceFirst(":.*", "");
            } else if (line.startsWith("==== ")) {
                where = "Terms " + line.charAt(5);
            }
            if (!line.startsWith("```")) {
                parts.computeIfAbsent(where, k -> new StringBuilder()).append(folded(line)).append(' ');
            }
        }
    }

    private static String folded(String words) {
        return words.trim().replaceAll("\\s+", " ");
    }

    /** Whether these words stand under a heading: 'Promise 2', 'Terms 3', 'The public face' and so on. */
    boolean has(String where, String words) {
        StringBuilder part = parts.get(where);
        return part != null && part.indexOf(folded(words)) >= 0;
    }
}
