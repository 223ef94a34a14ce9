import java.util.ArrayList;
import java.util.List;

/**
 * "A call that returns an error code leaves the state unchanged": every kind of refusal of every method.
 * Two objects come to the same state, one of them is then asked for what it refuses, and all that can be seen of
 * the two must be the same, now and while both go on.
 */
public final class RefusalsTest {
    /** Pages 1 and 2 pinned and dirty, page 2 with 9 pins; 3 and 4 fill the queue; 3, 4 and 6 have stale histories. */
    private static final String[] ALL_PINNED = {"reset(2, 2, 2, 3)", "read(6)", "write(3, 33)", "write(4, 44)",
        "write(1, 11)", "write(2, 22)", "pin(1)", "pin(2)", "pin(2)", "pin(2)", "pin(2)", "pin(2)", "pin(2)", "pin(2)",
        "pin(2)", "pin(2)"};
    /** One frame of the four is free; page 0 is pinned, 63 dirty, 5 clean; the queue is empty. */
    private static final String[] FREE_FRAME = {"write(63, 6)", "pin(0)", "read(5)", "read(5)"};
    /** Pages 2 and 3 unpinned, 2 clean; 0 and 1 wait in the queue, 60 is on disk; K is 3. */
    private static final String[] UNPINNED = {"reset(2, 3, 3, 9999)", "write(60, 6)", "flush(60)", "write(0, 9)",
        "write(1, 11)", "read(2)", "write(3, 33)", "write(3, 34)", "write(3, 35)"};
    private static final String[] NEW = {};

    /** Calls that show the capacities, K, the retention period and every value that the queries alone do not. */
    private static final String[] GOING_ON = {"unpin(2)", "read(7)", "read(6)", "write(8, 88)", "unpin(1)", "unpin(0)",
        "read(3)", "read(4)", "read(1)", "write(2, 5)", "write(9, 99)", "write(10, 100)", "write(11, 110)", "write(12, 120)",
        "pin(13)", "pin(14)", "read(15)", "read(0)", "read(63)", "read(60)", "read(5)", "unpin(13)", "unpin(14)", "read(16)",
        "write(17, 1)", "write(18, 1)", "write(19, 1)", "write(20, 1)", "write(21, 1)", "drain(1)", "read(3)", "flushAll()"};

    private static final String[] PAGE_CHANGES = {"read", "pin", "unpin", "flush", "discard"};
    private static final String[] PAGE_QUERIES = {"isResident", "isDirty", "pinCount", "backwardKDistance", "diskValue"};
    private static final List<String> WHOLE = whole();
    private static final int[] WRONG_PAGES = {-1, 64, Integer.MIN_VALUE, Integer.MAX_VALUE};
    private static final int[] WRONG_VALUES = {-1, 10000, Integer.MIN_VALUE, Integer.MAX_VALUE};

    private final Runs runs;
    private final String[] start;
    private final List<String> before;

    private RefusalsTest(Runs runs, String[] start) {
        this.runs = runs;
        this.start = start;
        before = everythingSeen(null);
    }

    public static void main(String[] args) {
        Runs runs = new Runs();
        new RefusalsTest(runs, NEW).refusalsOfANewObject();
        new RefusalsTest(runs, FREE_FRAME).refusalsWithAFreeFrame();
        new RefusalsTest(runs, UNPINNED).refusalsWithUnpinnedPages();
        new RefusalsTest(runs, ALL_PINNED).refusalsWithAllPinned();
        runs.end();
    }

    private void refusalsInEveryState() {
        wrongPages();
        wrongParametersOfReset();
        wrongArguments();
    }

    private void wrongPages() {
        for (int page : WRONG_PAGES) {
            for (String name : PAGE_CHANGES) {
                refused(name + "(" + page + ")", -1);
            }
            for (String name : PAGE_QUERIES) {
                refused(name + "(" + page + ")", -1);
            }
            refused("write(" + page + ", 5)", -1);
            refused("write(" + page + ", 10000)", -1);
            refused("referenceTime(" + page + ", 1)", -1);
            refused("referenceTime(" + page + ", 0)", -1);
        }
    }

    private void wrongParametersOfReset() {
        for (String parameters : new String[] {"0, 1, 1, 0", "17, 1, 1, 0", "1, 0, 1, 0", "1, 4, 1, 0", "1, 1, 0, 0",
                "1, 1, 9, 0", "1, 1, 1, -1", "1, 1, 1, 10000", "17, 4, 9, 10000"}) {
            refused("reset(" + parameters + ")", -8);
        }
    }

    private void wrongArguments() {
        for (int value : WRONG_VALUES) {
            refused("write(0, " + value + ")", -2);
            refused("write(1, " + value + ")", -2);
            refused("write(30, " + value + ")", -2);
        }
        refused("drain(-1)", -8);
        refused("drain(9)", -8);
        refused("referenceTime(1, 0)", -8);
        refused("referenceTime(1, 4)", -8);
        refused("residentPage(-1)", -9);
        refused("residentPage(16)", -9);
        refused("queuedPage(-1)", -9);
        refused("queuedPage(8)", -9);
        refused("queuedValue(-1)", -9);
        refused("queuedValue(8)", -9);
        refused("referenceTime(30, 1)", -9);
        refused("backwardKDistance(30)", -9);
        refused("unpin(30)", -4);
        refused("isDirty(30)", -4);
        refused("pinCount(30)", -4);
    }

    private void refusalsOfANewObject() {
        refusalsInEveryState();
        refused("victim()", -9);
        refused("residentPage(0)", -9);
        refused("queuedPage(0)", -9);
        refused("queuedValue(0)", -9);
    }

    private void refusalsWithAFreeFrame() {
        refusalsInEveryState();
        refused("discard(0)", -7);
        refused("unpin(63)", -5);
        refused("unpin(5)", -5);
        refused("queuedPage(0)", -9);
        refused("residentPage(3)", -9);
        refused("referenceTime(63, 2)", -9);
        refused("backwardKDistance(63)", -9);
    }

    private void refusalsWithUnpinnedPages() {
        refusalsInEveryState();
        refused("unpin(2)", -5);
        refused("unpin(3)", -5);
        refused("unpin(0)", -4);
        refused("isDirty(1)", -4);
        refused("pinCount(1)", -4);
        refused("residentPage(2)", -9);
        refused("queuedPage(2)", -9);
        refused("queuedValue(2)", -9);
        refused("referenceTime(2, 3)", -9);
    }

    private void refusalsWithAllPinned() {
        refusalsInEveryState();
        for (int page : new int[] {3, 4, 6, 30}) {
            refused("read(" + page + ")", -3);
            refused("write(" + page + ", 5)", -3);
            refused("pin(" + page + ")", -3);
            refused("unpin(" + page + ")", -4);
        }
        refused("pin(2)", -6);
        refused("discard(1)", -7);
        refused("discard(2)", -7);
        refused("write(1, 10000)", -2);
        refused("write(3, -1)", -2);
        refused("victim()", -9);
        refused("referenceTime(3, 2)", -9);
    }

    private void refused(String call, int code) {
        String title = "after " + String.join(", ", start) + ": " + call;
        runs.due(title, Runs.answer(at(null), call), code);
        List<String> after = everythingSeen(call);
        for (int i = 0; i < before.size(); i++) {
            if (!after.get(i).equals(before.get(i))) {
                runs.fault(title + " changed " + before.get(i) + " to " + after.get(i));
            }
        }
    }

    /** A new object that has come to the state, and has then been asked for the call, if there is one. */
    private LruKPageCache at(String call) {
        LruKPageCache cache = new LruKPageCache();
        for (String step : start) {
            if (Runs.answer(cache, step) < 0) {
                throw new IllegalStateException("refused on the way: " + step);
            }
        }
        if (call != null) {
            Runs.answer(cache, call);
        }
        return cache;
    }

    /** Asks a new object for each part, so that none is called more often than the document allows. */
    private List<String> everythingSeen(String call) {
        List<String> seen = new ArrayList<>();
        ask(at(call), WHOLE, seen);
        ask(at(call), pages(0, 31), seen);
        ask(at(call), pages(32, 63), seen);
        LruKPageCache later = at(call);
        ask(later, List.of(GOING_ON), seen);
        ask(later, WHOLE, seen);
        ask(later, pages(0, 31), seen);
        return seen;
    }

    private static void ask(LruKPageCache cache, List<String> calls, List<String> seen) {
        for (String call : calls) {
            seen.add(call + " -> " + Runs.answer(cache, call));
        }
    }

    private static List<String> whole() {
        List<String> queries = new ArrayList<>(List.of("clock()", "hits()", "misses()", "evictions()", "diskReads()",
            "diskWrites()", "stalls()", "victim()", "residentCount()", "queueSize()"));
        for (int position = 0; position < 4; position++) {
            queries.add("residentPage(" + position + ")");
            queries.add("queuedPage(" + position + ")");
            queries.add("queuedValue(" + position + ")");
        }
        return queries;
    }

    private static List<String> pages(int first, int last) {
        List<String> queries = new ArrayList<>();
        for (int page = first; page <= last; page++) {
            for (String name : PAGE_QUERIES) {
                queries.add(name + "(" + page + ")");
            }
            for (int i = 1; i <= 3; i++) {
                queries.add("referenceTime(" + page + ", " + i + ")");
            }
        }
        return queries;
    }
}
