import java.lang.reflect.Method;
import java.util.Arrays;
import java.util.function.IntFunction;
import java.util.regex.Matcher;
import java.util.regex.Pattern;

/** Plays runs of calls, written as the document writes its examples, and counts the answers that are not due. */
final class Runs {
    static final int MOST_CALLS = 512;

    private static final Pattern CALL = Pattern.compile("(\\w+)\\(([^)]*)\\)");
    private static final Pattern CALL_AND_ANSWER = Pattern.compile("(" + CALL + ")\\s*->\\s*(-?\\d+)\\s*,?\\s*");

    private int wrong;
    private int played;

    /** Plays "name(arguments) -> answer, .." on a new object; texts of one run are joined as they stand. */
    void run(String title, String... texts) {
        String text = String.join(" ", texts);
        LruKPageCache cache = new LruKPageCache();
        Matcher matcher = CALL_AND_ANSWER.matcher(text);
        int end = 0;
        int calls = 0;
        while (matcher.find()) {
            if (matcher.start() != end) {
                break;
            }
            end = matcher.end();
            calls++;
            String call = matcher.group(1);
            due(title + ", call " + calls + ": " + call, answer(cache, call), Integer.parseInt(matcher.group(4)));
        }
        if (end != text.length()) {
            throw new IllegalArgumentException(title + ": not a call: " + text.substring(end));
        }
        if (calls == 0 || calls > MOST_CALLS) {
            throw new IllegalArgumentException(title + ": a run has 1 to " + MOST_CALLS + " calls");
        }
    }

    void due(String what, long got, long want) {
        played++;
        if (got != want) {
            wrong++;
            System.out.println(what + " answered " + got + ", due is " + want);
        }
    }

    /** Counts a fault that is not an answer. */
    void fault(String what) {
        wrong++;
        System.out.println(what);
    }

    void end() {
        System.out.println(played + " answers, " + wrong + " not as due");
        if (wrong != 0) {
            System.exit(1);
        }
    }

    /** The text n times over, with every # replaced by first, first + 1, .. */
    static String repeat(int n, int first, String text) {
        return each(n, first, number -> text.replace("#", Integer.toString(number)));
    }

    /** The texts of first, first + 1, .., n of them. */
    static String each(int n, int first, IntFunction<String> text) {
        StringBuilder all = new StringBuilder();
        for (int i = 0; i < n; i++) {
            all.append(text.apply(first + i)).append(' ');
        }
        return all.toString().trim();
    }

    /** Makes one call, written as "name(arguments)". */
    static int answer(LruKPageCache cache, String call) {
        Matcher matcher = CALL.matcher(call);
        if (!matcher.matches()) {
            throw new IllegalArgumentException("not a call: " + call);
        }
        String list = matcher.group(2).trim();
        Object[] arguments = list.isEmpty() ? new Object[0]
                : Arrays.stream(list.split("\\s*,\\s*")).map(Integer::valueOf).toArray();
        Class<?>[] types = new Class<?>[arguments.length];
        Arrays.fill(types, int.class);
        try {
            Method method = LruKPageCache.class.getMethod(matcher.group(1), types);
            return (Integer) method.invoke(cache, arguments);
        } catch (ReflectiveOperationException e) {
            throw new IllegalStateException(call, e);
        }
    }
}
