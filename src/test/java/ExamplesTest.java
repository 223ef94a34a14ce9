import java.io.IOException;
import java.util.regex.Matcher;
import java.util.regex.Pattern;

/** The runs of the document's section "Examples", read from there. The path of the document is the second argument. */
public final class ExamplesTest {
    /** A title stands at the start of a line and begins with a capital letter, which no call does. */
    private static final Pattern EXAMPLE = Pattern.compile("(?m)^ *([A-Z][^:\\n]*): ((?:(?!^ *[A-Z]).|\\n)*)");

    public static void main(String[] args) throws IOException {
        String section = new Document(args[1]).section("Examples");
        Runs runs = new Runs();
        Matcher example = EXAMPLE.matcher(section);
        int end = 0;
        while (example.find() && section.substring(end, example.start()).isBlank()) {
            end = example.end();
            runs.run(example.group(1), example.group(2).trim().replaceAll("\\s+", " "));
        }
        if (end == 0 || !section.substring(end).isBlank()) {
            runs.fault("not an example: " + section.substring(end));
        }
        runs.end();
    }
}
