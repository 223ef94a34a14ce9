import java.io.IOException;
import java.lang.reflect.Field;
import java.lang.reflect.Method;
import java.lang.reflect.Modifier;
import java.lang.reflect.Parameter;
import java.nio.file.Files;
import java.nio.file.Path;
import java.util.Arrays;
import java.util.Set;
import java.util.TreeSet;
import java.util.regex.Matcher;
import java.util.regex.Pattern;
import java.util.stream.Collectors;
import java.util.stream.Stream;

/**
 * README.md says how to use the class and how to run its tests, and what it says holds. Its path is the third
 * argument; the names of parameters are known by javac -parameters.
 */
public final class ReadmeTest {
    private static final Pattern EXAMPLE = Pattern.compile("(?m)^cache\\.(\\w+\\([^)]*\\)); *// (-> -?\\d+)(.*)$");
    private static final Pattern NAMED_CODE = Pattern.compile(" (-\\d), ([A-Z_]+)");
    private static final Pattern ROW = Pattern.compile("(?m)^\\| `([^`]*)` \\|(?: (-\\d+) \\|)?");

    public static void main(String[] args) throws IOException, IllegalAccessException {
        String readme = Files.readString(Path.of(args[2]));
        Runs runs = new Runs();
        example(runs, readme);
        Set<String> rows = new TreeSet<>();
        Matcher row = ROW.matcher(readme);
        while (row.find()) {
            rows.add(row.group(1) + (row.group(2) == null ? "" : " = " + row.group(2)));
        }
        Set<String> due = new TreeSet<>();
        addCalls(due);
        addConstants(due);
        addTests(due);
        for (String one : due) {
            if (!rows.contains(one)) {
                runs.fault("README.md has no row for " + one);
            }
        }
        for (String one : rows) {
            if (!due.contains(one)) {
                runs.fault("README.md has a row for " + one);
            }
        }
        if (!readme.contains("\n    .ci/run\n")) {
            runs.fault("README.md does not say how to run the tests");
        }
        runs.end();
    }

    private static void example(Runs runs, String readme) throws IllegalAccessException {
        StringBuilder run = new StringBuilder();
        Matcher example = EXAMPLE.matcher(readme);
        while (example.find()) {
            run.append(example.group(1)).append(' ').append(example.group(2)).append(", ");
            Matcher code = NAMED_CODE.matcher(example.group(2) + example.group(3));
            if (code.find()) {
                runs.due("README.md, " + code.group(2), Integer.parseInt(code.group(1)), constant(code.group(2)));
            }
        }
        runs.run("README.md, the example", run.toString());
        long calls = readme.lines().filter(line -> line.startsWith("cache.")).count();
        runs.due("README.md, calls with an answer", EXAMPLE.matcher(readme).results().count(), calls);
    }

    private static int constant(String name) throws IllegalAccessException {
        for (Field field : LruKPageCache.class.getFields()) {
            if (field.getName().equals(name)) {
                return field.getInt(null);
            }
        }
        throw new IllegalArgumentException("no constant: " + name);
    }

    private static void addCalls(Set<String> due) {
        for (Method method : LruKPageCache.class.getDeclaredMethods()) {
            if (Modifier.isPublic(method.getModifiers())) {
                due.add(method.getName() + Arrays.stream(method.getParameters()).map(Parameter::getName)
                    .collect(Collectors.joining(", ", "(", ")")));
            }
        }
    }

    private static void addConstants(Set<String> due) throws IllegalAccessException {
        for (Field field : LruKPageCache.class.getFields()) {
            due.add(field.getName() + " = " + field.getInt(null));
        }
    }

    private static void addTests(Set<String> due) throws IOException {
        try (Stream<Path> files = Files.list(Path.of("src/test/java"))) {
            files.map(file -> file.getFileName().toString()).filter(name -> name.endsWith("Test.java"))
                .forEach(name -> due.add(name.replace(".java", "")));
        }
    }
}
