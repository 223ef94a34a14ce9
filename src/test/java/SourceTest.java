import java.io.IOException;
import java.nio.file.Files;
import java.nio.file.Path;
import java.util.regex.Matcher;
import java.util.regex.Pattern;

/** Those rules of LANGUAGE.md that show in the words of the source. Its path is the first argument. */
public final class SourceTest {
    private static final String[] FORBIDDEN = {
        "\\b(throw|throws|try|catch|finally|synchronized|assert|package|native|volatile|transient)\\b",
        "->", "::", "\\bstatic\\s*\\{", "Exact\\b", "\\b(System|Thread|Random|Object|Runtime|Class)\\b",
        "\\b(equals|hashCode|toString|getClass)\\b", "@\\w+", "\"", "[^\\x00-\\x7f]",
        "import\\s+(?!java\\.util\\.(Arrays|ArrayList|List|Iterator);)", "\\bMath\\.(?!min\\b|max\\b|abs\\b)"};

    public static void main(String[] args) throws IOException {
        if (args.length < 1) {
            System.out.println("the first argument is the path of the source");
            System.exit(1);
        }
        String code = withoutComments(Files.readString(Path.of(args[0])));
        int wrong = 0;
        for (String pattern : FORBIDDEN) {
            Matcher matcher = Pattern.compile(pattern).matcher(code);
            while (matcher.find()) {
                wrong++;
                long line = code.substring(0, matcher.start()).lines().count();
                System.out.println("line " + line + ": not in the language: " + matcher.group());
            }
        }
        System.out.println(wrong == 0 ? "the source keeps to the words" : wrong + " faults in the source");
        if (wrong != 0) {
            System.exit(1);
        }
    }

    /** Line ends stay, so that line numbers hold. */
    private static String withoutComments(String source) {
        Matcher matcher = Pattern.compile("//[^\\n]*|/\\*.*?\\*/", Pattern.DOTALL).matcher(source);
        return matcher.replaceAll(found -> found.group().replaceAll("[^\\n]", " "));
    }
}
