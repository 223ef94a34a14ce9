import java.io.IOException;
import java.util.ArrayList;
import java.util.List;

/**
 * What the document says before and after its description and promises: "What it is" and "Not promised"; and that it
 * has no section beside those that the tests know. The path of the document is the second argument.
 */
public final class DocumentTest {
    private static final String[] METHODS = {"reset", "read", "write", "pin", "unpin", "flush", "flushAll", "drain",
        "discard", "isResident", "isDirty", "pinCount", "referenceTime", "backwardKDistance", "victim", "diskValue",
        "residentCount", "residentPage", "queueSize", "queuedPage", "queuedValue", "clock", "hits", "misses", "evictions",
        "diskReads", "diskWrites", "stalls"};

    public static void main(String[] args) throws IOException {
        Runs runs = new Runs();
        headings(runs, new Document(args[1]));
        whatItIs(new Sentences(runs, args[1], "What it is"));
        notPromised(new Sentences(runs, args[1], "Not promised"));
        runs.end();
    }

    private static void headings(Runs runs, Document document) {
        List<String> known = new ArrayList<>(List.of("What it is", "The public face", "Description",
            "Promise 1: A new object"));
        for (int i = 0; i < METHODS.length; i++) {
            known.add("Promise " + (i + 2) + ": " + METHODS[i]);
        }
        known.addAll(List.of("Examples", "Not promised"));
        if (!known.equals(List.copyOf(document.headings()))) {
            runs.fault("the tests know the sections " + known + ", the document has " + document.headings());
        }
    }

    private static void whatItIs(Sentences doc) {
        doc.section("What it is");
        doc.holds("A page cache with LRU-K replacement, pinned pages and a write-back queue, in front of a simulated disk.",
            "reset(2, 2, 1, 9) -> 0, write(1, 11) -> 0, write(2, 22) -> 0, write(2, 23) -> 22, read(3) -> 0,",
            "isResident(2) -> 1, queuedPage(0) -> 1, diskValue(1) -> 0, pin(3) -> 1, victim() -> 2, drain(1) -> 1,",
            "diskValue(1) -> 11, read(1) -> 11");
        String most = "An object is used for at most 512 calls after it has been made;";
        doc.holds(most, "reset(1, 1, 1, 0) -> 0,", Runs.each(510, 1, i -> "write(" + i % 2 + ", " + i + ") -> "
            + Math.max(0, i - 2) + ","), "stalls() -> 508");
        doc.holds(most, Runs.repeat(511, 0, "read(64) -> -1,"), "clock() -> 0");
        doc.holds(most, Runs.repeat(128, 0, "write(1, 5) -> 0, discard(1) -> 1, pin(2) -> 1, unpin(2) -> 0,"));
        doc.namesNoCase("what later calls answer is free.");
        doc.allQuoted();
    }

    private static void notPromised(Sentences doc) {
        doc.section("Not promised");
        doc.namesNoCase("How the state is held inside the object is free, as are the speed of each call, the text of toString"
            + " and the behaviour of equals and hashCode.");
        doc.namesNoCase("Use of one object from several threads at once is not promised to be safe.");
        doc.namesNoCase("Nothing is promised beyond the answers and state changes described above, and nothing about an object"
            + " after its 512th call.");
        doc.allQuoted();
    }
}
