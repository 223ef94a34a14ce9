import java.lang.reflect.Constructor;
import java.lang.reflect.Field;
import java.lang.reflect.Method;
import java.lang.reflect.Modifier;
import java.util.Set;
import java.util.TreeSet;

/** The class has the document's public face, and beside it nothing that is not private. */
public final class FaceTest {
    private static final String[] FACE = {
        "NO_SUCH_PAGE = -1", "BAD_VALUE = -2", "ALL_PINNED = -3", "NOT_RESIDENT = -4", "NOT_PINNED = -5",
        "PIN_LIMIT = -6", "PAGE_PINNED = -7", "BAD_ARGUMENT = -8", "NONE = -9", "new 0",
        "reset 4", "read 1", "write 2", "pin 1", "unpin 1", "flush 1", "flushAll 0", "drain 1", "discard 1",
        "isResident 1", "isDirty 1", "pinCount 1", "referenceTime 2", "backwardKDistance 1", "victim 0",
        "diskValue 1", "residentCount 0", "residentPage 1", "queueSize 0", "queuedPage 1", "queuedValue 1",
        "clock 0", "hits 0", "misses 0", "evictions 0", "diskReads 0", "diskWrites 0", "stalls 0"};

    private static int wrong;

    public static void main(String[] args) throws IllegalAccessException {
        Class<?> type = LruKPageCache.class;
        check(Modifier.isPublic(type.getModifiers()) && Modifier.isFinal(type.getModifiers()), "public and final");
        Set<String> seen = new TreeSet<>();
        Set<String> publicNames = new TreeSet<>();
        for (Constructor<?> constructor : type.getDeclaredConstructors()) {
            check(Modifier.isPublic(constructor.getModifiers()), "the constructor is public");
            seen.add("new " + constructor.getParameterCount());
        }
        for (Field field : type.getDeclaredFields()) {
            if (Modifier.isPrivate(field.getModifiers())) {
                check(!Modifier.isStatic(field.getModifiers()) || Modifier.isFinal(field.getModifiers()),
                    "a static field is final: " + field);
            } else {
                check(field.toString().startsWith("public static final int "), "a constant: " + field);
                seen.add(field.getName() + " = " + field.getInt(null));
            }
        }
        for (Method method : type.getDeclaredMethods()) {
            if (!Modifier.isPrivate(method.getModifiers())) {
                check(method.getModifiers() == Modifier.PUBLIC, "public and no more: " + method);
                checkTypes(method);
                publicNames.add(method.getName());
                seen.add(method.getName() + " " + method.getParameterCount());
            }
        }
        check(seen.equals(new TreeSet<>(Set.of(FACE))), "the document's members, not " + seen);
        checkPrivateNames(type, publicNames);
        for (Class<?> inside : type.getDeclaredClasses()) {
            check(Modifier.isStatic(inside.getModifiers()) && !Modifier.isPublic(inside.getModifiers())
                && !Modifier.isProtected(inside.getModifiers()), "static and not public: " + inside);
            checkPrivateNames(inside, publicNames);
        }
        System.out.println(wrong == 0 ? "the face is the document's" : wrong + " faults in the face");
        if (wrong != 0) {
            System.exit(1);
        }
    }

    private static void checkTypes(Method method) {
        check(method.getReturnType() == int.class, "answers int: " + method);
        for (Class<?> parameter : method.getParameterTypes()) {
            check(parameter == int.class, "takes int: " + method);
        }
    }

    private static void checkPrivateNames(Class<?> type, Set<String> publicNames) {
        for (Method method : type.getDeclaredMethods()) {
            check(Modifier.isPublic(method.getModifiers()) || !publicNames.contains(method.getName()),
                "bears no public method's name: " + method);
        }
    }

    private static void check(boolean holds, String what) {
        if (!holds) {
            wrong++;
            System.out.println("does not hold: " + what);
        }
    }
}
