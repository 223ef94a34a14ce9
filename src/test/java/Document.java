import java.io.IOException;
import java.nio.file.Files;
import java.nio.file.Path;
import java.util.LinkedHashMap;
import java.util.Map;
import java.util.Set;

/** The document, cut at its headings. */
final class Document {
    private final Map<String, String> sections = new LinkedHashMap<>();

    Document(String path) throws IOException {
        String[] parts = Files.readString(Path.of(path)).split("(?m)^## ");
        for (int i = 1; i < parts.length; i++) {
            int end = parts[i].indexOf('\n');
            sections.put(parts[i].substring(0, end), parts[i].substring(end + 1));
        }
    }

    Set<String> headings() {
        return sections.keySet();
    }

    String section(String heading) {
        if (!sections.containsKey(heading)) {
            throw new IllegalArgumentException("the document has no section " + heading);
        }
        return sections.get(heading);
    }
}
