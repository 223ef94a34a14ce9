import java.io.IOException;
import java.lang.reflect.Constructor;
import java.lang.reflect.Executable;
import java.lang.reflect.Field;
import java.lang.reflect.Method;
import java.lang.reflect.Modifier;
import java.lang.reflect.Parameter;
import java.util.Set;
import java.util.StringJoiner;
import java.util.TreeSet;
import java.util.regex.Matcher;
import java.util.regex.Pattern;

/**
 * The class has the public face that the document writes out, line for line, and beside it nothing that is not
 * private. The path of the document is the second argument; the names of parameters are known by javac -parameters.
 */
public final class FaceTest {
    private static final Pattern BLOCK = Pattern.compile("```java\\n(.*?)\\n}\\n```", Pattern.DOTALL);
    private static final Pattern SIGNATURE = Pattern.compile("(?m)^`([^`]*)`$");

    private static int wrong;

    public static void main(String[] args) throws IOException, IllegalAccessException {
        Document document = new Document(args[1]);
        Class<?> type = LruKPageCache.class;
        Set<String> face = new TreeSet<>();
        face.add(Modifier.toString(type.getModifiers()) + " class " + type.getName() + " {");
        addConstants(type, face);
        addConstructorsAndMethods(type, face);
        same("the public face", linesOfTheFace(document), face);
        face.removeIf(line -> !line.endsWith(");"));
        same("a promise for each", signaturesOfThePromises(document), face);
        checkOtherNames(type);
        for (Class<?> inside : type.getDeclaredClasses()) {
            check(Modifier.isStatic(inside.getModifiers()) && !Modifier.isPublic(inside.getModifiers())
                && !Modifier.isProtected(inside.getModifiers()), "static and not public: " + inside);
            checkOtherNames(inside);
        }
        System.out.println(wrong == 0 ? "the face is the document's" : wrong + " faults in the face");
        if (wrong != 0) {
            System.exit(1);
        }
    }

    private static void addConstants(Class<?> type, Set<String> face) throws IllegalAccessException {
        for (Field field : type.getDeclaredFields()) {
            boolean fixed = Modifier.isStatic(field.getModifiers()) && Modifier.isFinal(field.getModifiers());
            if (!Modifier.isPrivate(field.getModifiers())) {
                face.add(Modifier.toString(field.getModifiers()) + " " + field.getType() + " " + field.getName() + " = "
                    + (fixed ? field.get(null) : "?") + ";");
            } else {
                check(fixed || !Modifier.isStatic(field.getModifiers()), "a static field is final: " + field);
            }
        }
    }

    private static void addConstructorsAndMethods(Class<?> type, Set<String> face) {
        for (Constructor<?> constructor : type.getDeclaredConstructors()) {
            face.add(line(constructor, type.getName()));
        }
        for (Method method : type.getDeclaredMethods()) {
            if (!Modifier.isPrivate(method.getModifiers())) {
                face.add(line(method, method.getReturnType() + " " + method.getName()));
            }
        }
    }

    private static String line(Executable member, String name) {
        StringJoiner parameters = new StringJoiner(", ", "(", ");");
        for (Parameter parameter : member.getParameters()) {
            parameters.add(parameter.toString());
        }
        return Modifier.toString(member.getModifiers()) + " " + name + parameters;
    }

    private static Set<String> linesOfTheFace(Document document) {
        Set<String> lines = new TreeSet<>();
        Matcher block = BLOCK.matcher(document.section("The public face"));
        check(block.find(), "the document writes out the face");
        block.group(1).lines().map(String::trim).forEach(lines::add);
        return lines;
    }

    private static Set<String> signaturesOfThePromises(Document document) {
        Set<String> signatures = new TreeSet<>();
        for (String heading : document.headings()) {
            Matcher signature = SIGNATURE.matcher(document.section(heading));
            if (heading.startsWith("Promise ") && signature.find()) {
                signatures.add("public " + signature.group(1) + ";");
            }
        }
        return signatures;
    }

    /** No method that is not public bears the name of a public one. */
    private static void checkOtherNames(Class<?> type) {
        for (Method method : type.getDeclaredMethods()) {
            for (Method known : LruKPageCache.class.getDeclaredMethods()) {
                check(Modifier.isPublic(method.getModifiers()) || !Modifier.isPublic(known.getModifiers())
                    || !known.getName().equals(method.getName()), "bears no public method's name: " + method);
            }
        }
    }

    private static void same(String what, Set<String> due, Set<String> got) {
        for (String line : due) {
            check(got.contains(line), what + ": the class has " + line);
        }
        for (String line : got) {
            check(due.contains(line), what + ": the document has " + line);
        }
    }

    private static void check(boolean holds, String what) {
        if (!holds) {
            wrong++;
            System.out.println("does not hold: " + what);
        }
    }
}
