import java.io.IOException;
import java.nio.file.Files;
import java.nio.file.Path;
import java.util.ArrayList;
import java.util.LinkedHashMap;
import java.util.List;
import java.util.Map;

/**
 * Runs that each belong to a sentence of the document. A sentence that is quoted must stand in its section, and
 * at the end every sentence of the sections must have been quoted: a sentence without a test is a fault.
 */
final class Sentences {
    private final Runs runs = new Runs();
    /** By the section's heading: its sentences that no run has quoted yet. */
    private final Map<String, List<String>> unquoted = new LinkedHashMap<>();
    private final Map<String, String> texts = new LinkedHashMap<>();
    private String current;

    /** Takes the sections whose headings begin with the given words. */
    Sentences(String path, String headings) throws IOException {
        for (String part : Files.readString(Path.of(path)).split("(?m)^## ")) {
            if (part.startsWith(headings)) {
                int end = part.indexOf('\n');
                List<String> sentences = sentencesOf(part.substring(end + 1));
                texts.put(part.substring(0, end), String.join(" ", sentences));
                unquoted.put(part.substring(0, end), sentences);
            }
        }
    }

    void section(String heading) {
        if (!texts.containsKey(heading)) {
            throw new IllegalArgumentException("the document has no section " + heading);
        }
        current = heading;
    }

    void holds(String sentence, String... run) {
        quote(sentence);
        runs.run(current + ", \"" + sentence + "\"", run);
    }

    /** For a sentence that no call can break or keep by itself. */
    void namesNoCase(String sentence) {
        quote(sentence);
    }

    void end() {
        for (Map.Entry<String, List<String>> section : unquoted.entrySet()) {
            for (String sentence : section.getValue()) {
                runs.fault(section.getKey() + ": no test for \"" + sentence + "\"");
            }
        }
        runs.end();
    }

    private void quote(String sentence) {
        if (!texts.get(current).contains(sentence)) {
            runs.fault(current + ": the document does not say \"" + sentence + "\"");
        }
        unquoted.get(current).removeIf(one -> one.contains(sentence) || sentence.contains(one));
    }

    /** A paragraph or point of a list ends a sentence, as a full stop or a semicolon does. Signatures are left out. */
    private static List<String> sentencesOf(String section) {
        List<String> sentences = new ArrayList<>();
        for (String paragraph : section.split("\\n\\s*\\n|\\n(?=- )")) {
            String line = paragraph.trim().replaceAll("\\s+", " ");
            if (!line.isEmpty() && !line.startsWith("`")) {
                sentences.addAll(List.of(line.split("(?<=[.;])\\s+")));
            }
        }
        return sentences;
    }
}
