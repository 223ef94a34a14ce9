import java.io.IOException;
import java.util.ArrayList;
import java.util.LinkedHashMap;
import java.util.List;
import java.util.Map;

/**
 * Runs that each belong to a sentence of the document. A sentence that is quoted must stand in its section, and
 * at the end every sentence of the sections must have been quoted: a sentence without a test is a fault.
 */
final class Sentences {
    private final Runs runs;
    /** By the section's heading: its sentences that no run has quoted yet. */
    private final Map<String, List<String>> unquoted = new LinkedHashMap<>();
    private final Map<String, String> texts = new LinkedHashMap<>();
    private String current;

    /** Takes the sections whose headings begin with the given words. */
    Sentences(Runs runs, String path, String headings) throws IOException {
        this.runs = runs;
        Document document = new Document(path);
        for (String heading : document.headings()) {
            if (heading.startsWith(headings)) {
                List<String> sentences = sentencesOf(document.section(heading));
                texts.put(heading, String.join(" ", sentences));
                unquoted.put(heading, sentences);
            }
        }
    }

    void section(String heading) {
        if (!texts.containsKey(heading)) {
            throw new IllegalArgumentException("the document has no section " + heading);
        }
        current = heading;
    }

    void holds(String sentence, String... run) {
        quote(sentence);
        runs.run(current + ", \"" + sentence + "\"", run);
    }

    /** For a sentence that no call can break or keep by itself. */
    void namesNoCase(String sentence) {
        quote(sentence);
    }

    /** Tells the sentences that no run has quoted. */
    void allQuoted() {
        for (Map.Entry<String, List<String>> section : unquoted.entrySet()) {
            for (String sentence : section.getValue()) {
                runs.fault(section.getKey() + ": no test for \"" + sentence + "\"");
            }
        }
    }

    private void quote(String sentence) {
        if (!texts.get(current).contains(sentence)) {
            runs.fault(current + ": the document does not say \"" + sentence + "\"");
        }
        unquoted.get(current).removeIf(one -> one.contains(sentence) || sentence.contains(one));
    }

    /** A paragraph or point of a list ends a sentence, as a full stop or a semicolon does. Signatures are left out. */
    private static List<String> sentencesOf(String section) {
        List<String> sentences = new ArrayList<>();
        for (String paragraph : section.split("\\n\\s*\\n|\\n(?=- )")) {
            String line = paragraph.trim().replaceAll("\\s+", " ");
            if (!line.isEmpty() && !line.startsWith("`")) {
                sentences.addAll(List.of(line.split("(?<=[.;])\\s+")));
            }
        }
        return sentences;
    }
}
