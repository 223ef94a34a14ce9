import java.io.IOException;

/** The section "Description", sentence by sentence. The path of the document is the second argument. */
public final class DescriptionSentencesTest {
    public static void main(String[] args) throws IOException {
        Runs runs = new Runs();
        Sentences doc = new Sentences(runs, args[1], "Description");
        doc.section("Description");
        disk(doc);
        frames(doc);
        pins(doc);
        dirtyFlag(doc);
        clock(doc);
        histories(doc);
        historiesOfEvictedPages(doc);
        retention(doc);
        misses(doc);
        victims(doc);
        appending(doc);
        stalls(doc);
        oneEntryAPage(doc);
        orderOfAMiss(doc);
        loads(doc);
        counters(doc);
        queries(doc);
        newCache(doc);
        constants(doc);
        doc.allQuoted();
        runs.end();
    }

    private static void disk(Sentences doc) {
        doc.holds("The disk has 64 pages, numbered 0 to 63.", "reset(1, 1, 1, 0) -> 0,",
            Runs.repeat(64, 0, "write(#, 1#) -> 0, flush(#) -> 1,"), Runs.repeat(64, 0, "diskValue(#) -> 1#,"),
            Runs.repeat(64, 0, "read(#) -> 1#,"), "diskValue(-1) -> -1, diskValue(64) -> -1");
        doc.holds("Each page stores one value, an integer from 0 to 9999.",
            "write(5, 9999) -> 0, read(5) -> 9999, flush(5) -> 1, diskValue(5) -> 9999, write(5, 0) -> 9999, read(5) -> 0,",
            "flush(5) -> 1, diskValue(5) -> 0, reset(1, 1, 2, 9) -> 0, write(1, 9999) -> 0, write(2, 0) -> 0, read(3) -> 0,",
            "queuedValue(0) -> 9999, queuedValue(1) -> 0, read(1) -> 9999, read(2) -> 0");
        doc.holds("Every disk page is initially 0.", Runs.repeat(64, 0, "diskValue(#) -> 0, read(#) -> 0,"));
        doc.namesNoCase("The class is not thread-safe.");
    }

    private static void frames(Sentences doc) {
        String capacity = "Frames. The cache has a fixed number of frames, called its capacity.";
        doc.holds(capacity, "reset(1, 2, 1, 9) -> 0, read(0) -> 0, residentCount() -> 1, evictions() -> 0, read(1) -> 0,",
            "residentCount() -> 1, evictions() -> 1, isResident(0) -> 0");
        doc.holds(capacity, "reset(16, 2, 1, 9) -> 0,", Runs.repeat(16, 0, "read(#) -> 0,"),
            "residentCount() -> 16, evictions() -> 0, read(16) -> 0, residentCount() -> 16, evictions() -> 1,",
            Runs.repeat(15, 17, "read(#) -> 0,"), "residentCount() -> 16, evictions() -> 16");
        doc.holds("A page is resident if it occupies a frame.", "reset(1, 1, 1, 9) -> 0, isResident(1) -> 0,",
            "write(1, 11) -> 0, isResident(1) -> 1, residentPage(0) -> 1, read(2) -> 0, isResident(1) -> 0,",
            "isResident(2) -> 1, residentPage(0) -> 2, discard(2) -> 1, isResident(2) -> 0, residentPage(0) -> -9");
        doc.holds("A resident page has a value, a dirty flag and a pin count.",
            "read(3) -> 0, isDirty(3) -> 0, pinCount(3) -> 0, write(3, 33) -> 0, isDirty(3) -> 1, pinCount(3) -> 0,",
            "pin(3) -> 1, isDirty(3) -> 1, read(3) -> 33, flush(3) -> 1, isDirty(3) -> 0, pinCount(3) -> 1, read(3) -> 33,",
            "unpin(3) -> 0, isDirty(3) -> 0, read(3) -> 33");
    }

    private static void pins(Sentences doc) {
        doc.holds("A page is pinned if its pin count is at least 1.", "reset(1, 1, 1, 9) -> 0, pin(1) -> 1,",
            "discard(1) -> -7, victim() -> -9, read(2) -> -3, pin(1) -> 2, discard(1) -> -7, victim() -> -9, read(2) -> -3,",
            "unpin(1) -> 1, discard(1) -> -7, victim() -> -9, read(2) -> -3, unpin(1) -> 0, victim() -> 1, read(2) -> 0,",
            "isResident(1) -> 0, discard(2) -> 1");
        String never = "A pinned page is never evicted.";
        doc.holds(never, "reset(2, 1, 8, 0) -> 0, pin(0) -> 1,",
            Runs.repeat(63, 1, "write(#, 5) -> 0, isResident(0) -> 1, victim() -> #,"),
            "evictions() -> 62, pinCount(0) -> 1, residentCount() -> 2");
        doc.holds(never, "reset(2, 2, 8, 9) -> 0, read(1) -> 0, read(1) -> 0, pin(2) -> 1, read(3) -> 0, isResident(2) -> 1,",
            "isResident(1) -> 0, pin(3) -> 1, read(4) -> -3, write(4, 1) -> -3, pin(4) -> -3, residentPage(0) -> 2,",
            "residentPage(1) -> 3, evictions() -> 1");
    }

    private static void dirtyFlag(Sentences doc) {
        String set = "The dirty flag is set by write, and when a page is loaded from the write-back queue.";
        doc.holds(set, "read(1) -> 0, isDirty(1) -> 0, pin(1) -> 1, isDirty(1) -> 0, unpin(1) -> 0, isDirty(1) -> 0,",
            "write(1, 11) -> 0, isDirty(1) -> 1");
        doc.holds(set, "reset(1, 1, 1, 9) -> 0, write(1, 11) -> 0, read(2) -> 0, read(1) -> 11, isDirty(1) -> 1,",
            "read(2) -> 0, isDirty(2) -> 0, pin(1) -> 1, isDirty(1) -> 1, unpin(1) -> 0, read(2) -> 0, isDirty(2) -> 0,",
            "write(1, 11) -> 11, isDirty(1) -> 1, diskReads() -> 4, diskWrites() -> 0");
        String cleared = "It is cleared by flush and flushAll.";
        doc.holds(cleared, "write(1, 11) -> 0, write(2, 22) -> 0, read(1) -> 11, pin(1) -> 1, unpin(1) -> 0, drain(8) -> 0,",
            "flush(2) -> 1, isDirty(2) -> 0, isDirty(1) -> 1, flush(1) -> 1, isDirty(1) -> 0");
        doc.holds(cleared, "write(0, 11) -> 0, write(63, 22) -> 0, flushAll() -> 2, isDirty(0) -> 0, isDirty(63) -> 0");
        doc.holds(cleared, "reset(1, 1, 1, 9) -> 0, write(1, 11) -> 0, read(2) -> 0, read(1) -> 11, isDirty(1) -> 1,",
            "flush(1) -> 1, isDirty(1) -> 0");
        doc.holds("A page is dirty if its dirty flag is set, and clean otherwise.",
            "read(1) -> 0, isDirty(1) -> 0, write(1, 0) -> 0, isDirty(1) -> 1, flush(1) -> 1, isDirty(1) -> 0");
    }

    private static void clock(Sentences doc) {
        doc.holds("Clock and references. The cache has a logical clock, which starts at 0.",
            "clock() -> 0, read(1) -> 0, referenceTime(1, 1) -> 1, clock() -> 1");
        doc.holds("Each successful call of read, write or pin is one reference to its page: the clock is increased by 1,"
                + " and the new clock value is the time of the reference.",
            "read(1) -> 0, clock() -> 1, referenceTime(1, 1) -> 1, write(2, 22) -> 0, clock() -> 2, referenceTime(2, 1) -> 2,",
            "pin(3) -> 1, clock() -> 3, referenceTime(3, 1) -> 3, read(2) -> 22, clock() -> 4, referenceTime(2, 1) -> 4,",
            "write(3, 33) -> 0, clock() -> 5, referenceTime(3, 1) -> 5, pin(1) -> 1, clock() -> 6, referenceTime(1, 1) -> 6,",
            "referenceTime(2, 1) -> 4, read(4) -> 0, read(5) -> 0, clock() -> 8, referenceTime(5, 1) -> 8");
        String others = "Apart from reset, no other call changes the clock.";
        doc.holds(others, "reset(2, 2, 2, 9) -> 0,", Runs.repeat(4, 1, "write(#, ##) -> 0,"), "pin(4) -> 1, clock() -> 5,",
            "unpin(4) -> 0, flush(4) -> 1, flush(1) -> 1, drain(1) -> 1, discard(4) -> 1, discard(1) -> 0, flushAll() -> 1,",
            "isResident(3) -> 1, isDirty(3) -> 0, pinCount(3) -> 0, referenceTime(3, 1) -> 3, backwardKDistance(3) -> -9,",
            "victim() -> 3, diskValue(3) -> 33, residentCount() -> 1, residentPage(0) -> 3, queueSize() -> 0,",
            "queuedPage(0) -> -9, queuedValue(0) -> -9, hits() -> 1, misses() -> 4, evictions() -> 2, diskReads() -> 4,",
            "diskWrites() -> 4, stalls() -> 0, clock() -> 5");
        doc.holds(others, "read(1) -> 0, read(1) -> 0, clock() -> 2, reset(4, 2, 3, 100) -> 0, clock() -> 0, read(1) -> 0,",
            "clock() -> 1");
        doc.namesNoCase("The clock is an int; it is not expected to overflow.");
        doc.holds("A call that returns an error code leaves the state unchanged.", "reset(1, 1, 1, 0) -> 0, write(1, 11) -> 0,",
            "pin(2) -> 1, read(64) -> -1, write(2, 10000) -> -2, read(1) -> -3, unpin(1) -> -4, discard(2) -> -7,",
            "drain(9) -> -8, clock() -> 2, queueSize() -> 1, referenceTime(1, 1) -> 1, pinCount(2) -> 1, isDirty(2) -> 0,",
            "misses() -> 2, hits() -> 0, unpin(2) -> 0, unpin(2) -> -5, pinCount(2) -> 0");
    }

    private static void histories(Sentences doc) {
        String lastK = "Reference history. The cache remembers, for each of the 64 pages, the times of its last K references"
            + " since its history was last deleted, or all of them if there are fewer than K.";
        doc.holds(lastK, "reset(1, 1, 1, 9999) -> 0, referenceTime(7, 1) -> -9, read(7) -> 0, referenceTime(7, 1) -> 1,",
            "read(7) -> 0, referenceTime(7, 1) -> 2, referenceTime(7, 2) -> -8");
        doc.holds(lastK, "reset(1, 2, 1, 9999) -> 0, read(7) -> 0, referenceTime(7, 1) -> 1, referenceTime(7, 2) -> -9,",
            "read(7) -> 0, referenceTime(7, 1) -> 2, referenceTime(7, 2) -> 1, read(7) -> 0, referenceTime(7, 1) -> 3,",
            "referenceTime(7, 2) -> 2, referenceTime(7, 3) -> -8");
        doc.holds(lastK, "reset(1, 3, 1, 9999) -> 0, read(7) -> 0, referenceTime(7, 2) -> -9, referenceTime(7, 3) -> -9,",
            "read(7) -> 0, referenceTime(7, 2) -> 1, referenceTime(7, 3) -> -9, read(7) -> 0, referenceTime(7, 3) -> 1,",
            "read(7) -> 0, referenceTime(7, 1) -> 4, referenceTime(7, 2) -> 3, referenceTime(7, 3) -> 2,",
            "referenceTime(7, 4) -> -8");
        doc.holds(lastK, "reset(1, 3, 1, 9999) -> 0,", Runs.repeat(64, 0, "read(#) -> 0, read(#) -> 0,"),
            Runs.each(64, 0, page -> "referenceTime(" + page + ", 1) -> " + (2 * page + 2) + ", referenceTime(" + page
                + ", 2) -> " + (2 * page + 1) + ", referenceTime(" + page + ", 3) -> -9,"));
        doc.holds(lastK, "reset(1, 3, 1, 9999) -> 0,", Runs.repeat(3, 0, "read(7) -> 0,"), "discard(7) -> 1, read(7) -> 0,",
            "referenceTime(7, 1) -> 4, referenceTime(7, 2) -> -9, referenceTime(7, 3) -> -9");
    }

    private static void historiesOfEvictedPages(Sentences doc) {
        String survives = "The history of a page survives its eviction.";
        doc.holds(survives, "reset(1, 3, 1, 9) -> 0, read(1) -> 0, read(1) -> 0, read(1) -> 0, read(2) -> 0,",
            "isResident(1) -> 0, referenceTime(1, 1) -> 3, referenceTime(1, 2) -> 2, referenceTime(1, 3) -> 1,",
            "backwardKDistance(1) -> 3, read(1) -> 0, referenceTime(1, 1) -> 5, referenceTime(1, 2) -> 3,",
            "referenceTime(1, 3) -> 2");
        doc.holds(survives, "reset(1, 2, 1, 9) -> 0, write(1, 11) -> 0, write(2, 22) -> 0, queuedPage(0) -> 1,",
            "referenceTime(1, 1) -> 1, read(3) -> 0, stalls() -> 1, referenceTime(1, 1) -> 1, referenceTime(2, 1) -> 2,",
            "flush(2) -> 1, referenceTime(2, 1) -> 2, read(1) -> 11, referenceTime(1, 2) -> 1");
        doc.holds(survives, "reset(1, 2, 1, 9) -> 0, read(1) -> 0, read(2) -> 0, read(1) -> 0, read(2) -> 0, read(1) -> 0,",
            "referenceTime(1, 2) -> 3, referenceTime(2, 1) -> 4, referenceTime(2, 2) -> 2");
    }

    private static void retention(Sentences doc) {
        String rule = "When a page that is not resident is referenced at time t, and t minus the time of its most recent"
            + " remembered reference is greater than the retention period, its history is deleted before the new reference"
            + " is recorded.";
        for (String again : new String[] {"read(1) -> 0,", "write(1, 5) -> 0,", "pin(1) -> 1,"}) {
            doc.holds(rule, "reset(1, 2, 1, 1) -> 0, read(1) -> 0, read(2) -> 0,", again, "referenceTime(1, 1) -> 3,",
                "referenceTime(1, 2) -> -9");
            doc.holds(rule, "reset(1, 2, 1, 2) -> 0, read(1) -> 0, read(2) -> 0,", again, "referenceTime(1, 1) -> 3,",
                "referenceTime(1, 2) -> 1");
            doc.holds(rule, "reset(1, 2, 1, 2) -> 0, read(1) -> 0, read(2) -> 0, read(2) -> 0,", again,
                "referenceTime(1, 1) -> 4, referenceTime(1, 2) -> -9");
        }
        doc.holds(rule, "reset(1, 2, 1, 0) -> 0, read(1) -> 0, read(2) -> 0, read(1) -> 0, referenceTime(1, 1) -> 3,",
            "referenceTime(1, 2) -> -9");
        retentionMetAndPassed(doc, rule, 30);
        retentionMetAndPassed(doc, rule, 400);
        doc.holds(rule, "reset(1, 2, 1, 9999) -> 0, read(1) -> 0,", Runs.repeat(500, 0, "read(2) -> 0,"),
            "read(1) -> 0, referenceTime(1, 1) -> 502, referenceTime(1, 2) -> 1");
        doc.holds(rule, "reset(1, 3, 1, 2) -> 0, read(1) -> 0, read(1) -> 0, read(1) -> 0, read(2) -> 0, read(1) -> 0,",
            "referenceTime(1, 2) -> 3, referenceTime(1, 3) -> 2, read(2) -> 0, read(2) -> 0, read(1) -> 0,",
            "referenceTime(1, 1) -> 8, referenceTime(1, 2) -> -9, referenceTime(1, 3) -> -9, referenceTime(2, 2) -> 6");
        doc.holds(rule, "reset(1, 2, 2, 1) -> 0, write(1, 11) -> 0, read(2) -> 0, queuedPage(0) -> 1, read(1) -> 11,",
            "isDirty(1) -> 1, referenceTime(1, 1) -> 3, referenceTime(1, 2) -> -9");
        doc.holds(rule, "reset(1, 2, 1, 1) -> 0, read(1) -> 0, pin(2) -> 1, pin(2) -> 2, read(1) -> -3,",
            "referenceTime(1, 1) -> 1, unpin(2) -> 1, unpin(2) -> 0, discard(2) -> 1, referenceTime(1, 1) -> 1, read(1) -> 0,",
            "referenceTime(1, 1) -> 4, referenceTime(1, 2) -> -9");
        String resident = "The history of a resident page is never deleted by the retention rule.";
        doc.holds(resident, "reset(2, 3, 1, 0) -> 0, read(1) -> 0,", Runs.repeat(200, 0, "read(2) -> 0,"), "read(1) -> 0,",
            Runs.repeat(200, 0, "read(2) -> 0,"), "write(1, 5) -> 0, referenceTime(1, 1) -> 403,",
            "referenceTime(1, 2) -> 202, referenceTime(1, 3) -> 1, pin(1) -> 1, referenceTime(1, 3) -> 202");
    }

    /** Page 1 is referenced again when just the period has gone by, and on a new object one reference later. */
    private static void retentionMetAndPassed(Sentences doc, String rule, int period) {
        String start = "reset(1, 2, 1, " + period + ") -> 0, read(1) -> 0,";
        doc.holds(rule, start, Runs.repeat(period - 1, 0, "read(2) -> 0,"), "read(1) -> 0,",
            "referenceTime(1, 1) -> " + (period + 1) + ", referenceTime(1, 2) -> 1");
        doc.holds(rule, start, Runs.repeat(period, 0, "read(2) -> 0,"), "read(1) -> 0,",
            "referenceTime(1, 1) -> " + (period + 2) + ", referenceTime(1, 2) -> -9");
    }

    private static void misses(Sentences doc) {
        String miss = "Replacement. A reference to a page that is not resident is a miss.";
        doc.holds(miss, "read(1) -> 0, misses() -> 1, write(2, 22) -> 0, misses() -> 2, pin(3) -> 1, misses() -> 3,",
            "read(1) -> 0, write(2, 22) -> 22, pin(3) -> 2, misses() -> 3, discard(1) -> 1, read(1) -> 0, misses() -> 4");
        doc.holds(miss, "reset(1, 1, 1, 9) -> 0, write(1, 11) -> 0, read(2) -> 0, misses() -> 2, read(1) -> 11,",
            "misses() -> 3, hits() -> 0");
        String free = "If a frame is free, the page is loaded into it.";
        doc.holds(free, "reset(3, 1, 1, 9) -> 0, write(1, 11) -> 0, write(2, 22) -> 0, victim() -> 1, read(3) -> 0,",
            "evictions() -> 0, queueSize() -> 0, residentCount() -> 3, discard(2) -> 1, residentCount() -> 2, victim() -> 1,",
            "read(4) -> 0, evictions() -> 0, isResident(1) -> 1, residentCount() -> 3, read(5) -> 0, evictions() -> 1");
        doc.holds(free, "reset(2, 1, 1, 9) -> 0, pin(1) -> 1, victim() -> -9, read(2) -> 0, isResident(2) -> 1,",
            "evictions() -> 0, discard(2) -> 1, pin(2) -> 1, victim() -> -9, read(3) -> -3");
        doc.holds("Otherwise one unpinned resident page, the victim, is evicted first.", "reset(3, 1, 1, 9) -> 0,",
            Runs.repeat(3, 1, "read(#) -> 0,"), "victim() -> 1, read(4) -> 0, evictions() -> 1, residentCount() -> 3,",
            "isResident(1) -> 0, isResident(2) -> 1, isResident(3) -> 1, isResident(4) -> 1, victim() -> 2, pin(2) -> 1,",
            "victim() -> 3, write(1, 5) -> 0, evictions() -> 2, residentCount() -> 3, isResident(2) -> 1,",
            "isResident(3) -> 0");
    }

    private static void victims(Sentences doc) {
        String fewer = "If any unpinned resident page has fewer than K remembered references, the victim is the least recently"
            + " referenced of those pages.";
        doc.holds(fewer, "reset(3, 2, 1, 99) -> 0, read(1) -> 0, read(1) -> 0, read(2) -> 0, read(3) -> 0, victim() -> 2,",
            "read(4) -> 0, isResident(2) -> 0, victim() -> 3, read(3) -> 0, victim() -> 4, read(5) -> 0, isResident(4) -> 0,",
            "isResident(1) -> 1, isResident(3) -> 1");
        doc.holds(fewer, "reset(3, 3, 1, 99) -> 0, read(1) -> 0, read(2) -> 0, read(3) -> 0, read(1) -> 0, victim() -> 2,",
            "read(2) -> 0, victim() -> 3, read(3) -> 0, victim() -> 1, read(1) -> 0, victim() -> 2, read(2) -> 0,",
            "victim() -> 3, read(3) -> 0, victim() -> 1");
        for (String longer : new String[] {"1", "2"}) {
            String shorter = longer.equals("1") ? "2" : "1";
            String twice = "read(" + longer + ") -> 0, read(" + longer + ") -> 0,";
            doc.holds(fewer, "reset(2, 3, 1, 99) -> 0,", twice, "read(" + shorter + ") -> 0, victim() -> " + longer);
            doc.holds(fewer, "reset(2, 3, 1, 99) -> 0, read(" + shorter + ") -> 0,", twice, "victim() -> " + shorter);
        }
        doc.holds(fewer, "reset(2, 2, 1, 99) -> 0, read(63) -> 0, read(63) -> 0, read(0) -> 0, victim() -> 0,",
            "reset(2, 2, 1, 99) -> 0, read(0) -> 0, read(0) -> 0, read(63) -> 0, victim() -> 63");
        doc.holds(fewer, "reset(2, 2, 1, 99) -> 0, pin(1) -> 1, read(2) -> 0, read(2) -> 0, victim() -> 2, unpin(1) -> 0,",
            "victim() -> 1");
        doc.holds(fewer, "reset(2, 2, 1, 2) -> 0, read(1) -> 0, read(1) -> 0, read(2) -> 0, read(2) -> 0, read(3) -> 0,",
            "isResident(1) -> 0, victim() -> 3, read(1) -> 0, referenceTime(1, 2) -> -9, victim() -> 1");
        doc.holds(fewer, "reset(2, 2, 1, 99) -> 0, read(1) -> 0, read(1) -> 0, read(2) -> 0, read(2) -> 0, read(3) -> 0,",
            "isResident(1) -> 0, victim() -> 3, read(1) -> 0, referenceTime(1, 2) -> 2, victim() -> 1");
        String kth = "Otherwise the victim is the unpinned resident page whose K-th most recent reference is the oldest.";
        doc.holds(kth, "reset(3, 1, 1, 99) -> 0, read(1) -> 0, read(2) -> 0, read(3) -> 0, victim() -> 1, read(1) -> 0,",
            "victim() -> 2, read(4) -> 0, isResident(2) -> 0, victim() -> 3");
        doc.holds(kth, "reset(2, 2, 1, 99) -> 0, read(1) -> 0, read(2) -> 0, read(2) -> 0, read(1) -> 0, victim() -> 1,",
            "read(1) -> 0, victim() -> 2, read(3) -> 0, isResident(2) -> 0, isResident(1) -> 1");
        doc.holds(kth, "reset(2, 3, 1, 99) -> 0, read(1) -> 0, read(2) -> 0, read(2) -> 0, read(2) -> 0, read(1) -> 0,",
            "read(1) -> 0, victim() -> 1, read(1) -> 0, victim() -> 2, read(2) -> 0, victim() -> 2, read(2) -> 0,",
            "victim() -> 2, read(2) -> 0, victim() -> 1");
        doc.holds(kth, "reset(3, 1, 1, 99) -> 0, pin(1) -> 1, read(2) -> 0, read(3) -> 0, victim() -> 2, pin(3) -> 1,",
            "victim() -> 2, pin(2) -> 1, victim() -> -9, unpin(3) -> 0, victim() -> 3, unpin(1) -> 0, victim() -> 1");
        doc.namesNoCase("Ties cannot occur, because no two references have the same time.");
    }

    private static void appending(Sentences doc) {
        String dirty = "Write-back queue. When a dirty page is evicted, an entry with its number and value is appended to the"
            + " write-back queue.";
        doc.holds(dirty, "reset(1, 1, 3, 9) -> 0, write(0, 9999) -> 0, write(63, 0) -> 0, queueSize() -> 1,",
            "queuedPage(0) -> 0, queuedValue(0) -> 9999, write(5, 5) -> 0, queueSize() -> 2, queuedPage(0) -> 0,",
            "queuedPage(1) -> 63, queuedValue(1) -> 0, diskWrites() -> 0, read(6) -> 0, queuedPage(2) -> 5,",
            "queuedValue(2) -> 5");
        doc.holds(dirty, "reset(1, 1, 3, 9) -> 0, write(1, 11) -> 0, flush(1) -> 1, write(1, 11) -> 11, read(2) -> 0,",
            "queueSize() -> 1, queuedValue(0) -> 11");
        String clean = "When a clean page is evicted, nothing is appended.";
        doc.holds(clean, "reset(1, 1, 1, 9) -> 0, read(1) -> 0, read(2) -> 0, pin(3) -> 1, unpin(3) -> 0, read(4) -> 0,",
            "evictions() -> 3, queueSize() -> 0");
        doc.holds(clean, "reset(1, 1, 1, 9) -> 0, write(1, 11) -> 0, flush(1) -> 1, read(2) -> 0, queueSize() -> 0,",
            "write(3, 33) -> 0, flushAll() -> 1, read(4) -> 0, evictions() -> 3, queueSize() -> 0");
        doc.holds(clean, "reset(1, 1, 1, 9) -> 0, write(1, 11) -> 0, read(2) -> 0, queueSize() -> 1, read(3) -> 0,",
            "queueSize() -> 1, queuedPage(0) -> 1, stalls() -> 0, diskWrites() -> 0, evictions() -> 2");
    }

    private static void stalls(Sentences doc) {
        String fifo = "The queue is first-in, first-out and has a fixed capacity.";
        doc.holds(fifo, "reset(1, 1, 1, 9) -> 0, write(1, 11) -> 0, write(2, 22) -> 0, queueSize() -> 1, stalls() -> 0,",
            "write(3, 33) -> 0, queueSize() -> 1, stalls() -> 1, queuedPage(0) -> 2");
        doc.holds(fifo, "reset(1, 1, 8, 9) -> 0,", Runs.repeat(9, 11, "write(#, #) -> 0,"), "queueSize() -> 8,",
            "stalls() -> 0,", Runs.each(8, 0, i -> "queuedPage(" + i + ") -> " + (11 + i) + ","), "write(20, 20) -> 0,",
            "queueSize() -> 8, stalls() -> 1,", Runs.each(8, 0, i -> "queuedPage(" + i + ") -> " + (12 + i) + ","),
            "queuedPage(8) -> -9, diskValue(11) -> 11, diskValue(12) -> 0");
        doc.holds(fifo, "reset(1, 1, 3, 9) -> 0,", Runs.repeat(3, 1, "write(#, ##) -> 0,"), "drain(1) -> 1, write(4, 44) -> 0,",
            "write(5, 55) -> 0, queueSize() -> 3, queuedPage(0) -> 2, queuedPage(1) -> 3, queuedPage(2) -> 4, stalls() -> 0,",
            Runs.repeat(4, 6, "write(#, ##) -> 0,"), "stalls() -> 4, queuedPage(0) -> 6, queuedPage(1) -> 7, queuedPage(2) -> 8,",
            Runs.repeat(4, 2, "diskValue(#) -> ##,"), "diskValue(6) -> 0");
        String stall = "If the queue is full when an entry must be appended, its oldest entry is written to disk and removed"
            + " first; this is called a stall.";
        doc.holds(stall, "reset(1, 1, 2, 9) -> 0, write(1, 11) -> 0, write(2, 22) -> 0, stalls() -> 0, write(3, 33) -> 0,",
            "queueSize() -> 2, stalls() -> 0, diskWrites() -> 0, write(4, 44) -> 0, queueSize() -> 2, stalls() -> 1,",
            "diskWrites() -> 1, diskValue(1) -> 11, diskValue(2) -> 0, queuedPage(0) -> 2, queuedValue(0) -> 22,",
            "queuedPage(1) -> 3, queuedValue(1) -> 33, diskReads() -> 4, isResident(1) -> 0");
        doc.holds(stall, "reset(1, 1, 1, 9) -> 0, write(1, 11) -> 0, write(2, 22) -> 0, drain(1) -> 1, queueSize() -> 0,",
            "write(3, 33) -> 0, queueSize() -> 1, stalls() -> 0, discard(2) -> 1, write(4, 44) -> 0, stalls() -> 0,",
            "queuedPage(0) -> 3, flush(3) -> 1, write(5, 55) -> 0, stalls() -> 0, write(6, 66) -> 0, stalls() -> 1,",
            "diskValue(4) -> 44");
    }

    private static void oneEntryAPage(Sentences doc) {
        String once = "The queue never contains two entries for the same page, and it never contains an entry for a resident"
            + " page.";
        doc.holds(once, "reset(1, 1, 8, 99) -> 0,",
            Runs.each(20, 1, i -> "write(1, " + i + ") -> " + (i - 1) + ", queueSize() -> " + (i == 1 ? 0 : 1) + ", write(2, "
                + i + ") -> " + (i - 1) + ", queueSize() -> 1, queuedPage(0) -> 1, queuedValue(0) -> " + i + ","),
            "read(3) -> 0, queueSize() -> 2, queuedPage(0) -> 1, queuedPage(1) -> 2, stalls() -> 0, diskWrites() -> 0");
        doc.holds(once, "reset(2, 1, 8, 99) -> 0,", Runs.repeat(4, 1, "write(#, ##) -> 0,"), "queueSize() -> 2,",
            "pin(1) -> 1, queueSize() -> 2, queuedPage(0) -> 2, queuedPage(1) -> 3, read(2) -> 22, queueSize() -> 2,",
            "queuedPage(0) -> 3, queuedPage(1) -> 4, write(3, 5) -> 33, queueSize() -> 2, queuedPage(0) -> 4,",
            "queuedPage(1) -> 2, residentPage(0) -> 1, residentPage(1) -> 3");
    }

    private static void orderOfAMiss(Sentences doc) {
        String steps = "Order of a miss. The steps of a miss are always: first, the victim is chosen and evicted, if no frame is"
            + " free, including a stall if one is needed; second, the page is loaded.";
        for (String again : new String[] {"read(1) -> 11,", "pin(1) -> 1,"}) {
            doc.holds(steps, "reset(1, 1, 1, 9) -> 0, write(1, 11) -> 0, write(2, 22) -> 0, queuedPage(0) -> 1,", again,
                "stalls() -> 1, diskValue(1) -> 11, diskReads() -> 3, isDirty(1) -> 0, queueSize() -> 1, queuedPage(0) -> 2");
        }
        doc.holds(steps, "reset(1, 1, 1, 9) -> 0, write(1, 11) -> 0, write(2, 22) -> 0, write(1, 12) -> 11, stalls() -> 1,",
            "diskValue(1) -> 11, diskReads() -> 3, isDirty(1) -> 1, read(1) -> 12, queueSize() -> 1, queuedPage(0) -> 2");
        doc.holds(steps, "reset(1, 1, 3, 9) -> 0,", Runs.repeat(4, 1, "write(#, ##) -> 0,"), "queueSize() -> 3, read(1) -> 11,",
            "stalls() -> 1, diskValue(1) -> 11, diskReads() -> 5, isDirty(1) -> 0, queueSize() -> 3, queuedPage(0) -> 2,",
            "queuedPage(2) -> 4");
        doc.holds(steps, "reset(1, 1, 3, 9) -> 0,", Runs.repeat(4, 1, "write(#, ##) -> 0,"), "queueSize() -> 3, read(3) -> 33,",
            "stalls() -> 1, diskValue(1) -> 11, diskValue(3) -> 0, diskReads() -> 4, isDirty(3) -> 1, queueSize() -> 2,",
            "queuedPage(0) -> 2, queuedPage(1) -> 4");
        doc.holds(steps, "reset(2, 1, 1, 9) -> 0, write(1, 11) -> 0, write(2, 22) -> 0, write(3, 33) -> 0, queuedPage(0) -> 1,",
            "discard(2) -> 1, read(1) -> 11, stalls() -> 0, evictions() -> 1, isDirty(1) -> 1, diskReads() -> 3,",
            "queueSize() -> 0");
        doc.holds(steps, "reset(1, 1, 1, 9) -> 0, write(1, 11) -> 0, read(2) -> 0, queuedPage(0) -> 1, read(1) -> 11,",
            "stalls() -> 0, evictions() -> 2, isDirty(1) -> 1, diskReads() -> 2, diskValue(1) -> 0, queueSize() -> 0");
    }

    private static void loads(Sentences doc) {
        String queued = "If the queue still contains the page at the second step, the page takes its value from the queue entry,"
            + " the entry is removed from the queue, and the page is dirty.";
        for (int page = 1; page <= 3; page++) {
            doc.holds(queued, "reset(1, 1, 8, 9) -> 0,", Runs.repeat(3, 1, "write(#, ##) -> 0,"), "read(4) -> 0, queueSize() -> 3,",
                Runs.repeat(1, page, "read(#) -> ##, isDirty(#) -> 1, diskValue(#) -> 0,"), "queueSize() -> 2,",
                "queuedPage(0) -> " + (page == 1 ? 2 : 1) + ", queuedPage(1) -> " + (page == 3 ? 2 : 3) + ",",
                "queuedPage(2) -> -9, diskReads() -> 4, diskWrites() -> 0");
        }
        doc.holds(queued, "reset(1, 1, 1, 9) -> 0, write(0, 0) -> 0, read(2) -> 0, queuedPage(0) -> 0, read(0) -> 0,",
            "isDirty(0) -> 1, queueSize() -> 0, diskReads() -> 2");
        String disk = "Otherwise its value is read from disk, and the page is clean.";
        doc.holds(disk, "reset(1, 1, 1, 9) -> 0, write(1, 11) -> 0, read(2) -> 0, isDirty(2) -> 0, drain(1) -> 1, read(1) -> 11,",
            "isDirty(1) -> 0, diskReads() -> 3, write(1, 12) -> 11, discard(1) -> 1, read(1) -> 11, isDirty(1) -> 0,",
            "diskReads() -> 4");
        doc.holds("The pin count of a newly loaded page is 0.", "reset(1, 1, 1, 9) -> 0, pin(1) -> 1, pin(1) -> 2, unpin(1) -> 1,",
            "write(1, 11) -> 0, unpin(1) -> 0, read(2) -> 0, pinCount(2) -> 0, read(1) -> 11, pinCount(1) -> 0, pin(2) -> 1,",
            "unpin(2) -> 0, write(1, 12) -> 11, pinCount(1) -> 0, discard(1) -> 1, pin(1) -> 1");
    }

    private static void counters(Sentences doc) {
        String since = "Counters. The cache counts hits, misses, evictions, disk reads, disk writes and stalls since it was"
            + " created or last reset.";
        doc.holds(since, counts(0, 0, 0, 0, 0, 0), "reset(1, 1, 1, 9) -> 0, write(1, 11) -> 0, read(1) -> 11,",
            counts(1, 1, 0, 1, 0, 0), "write(2, 22) -> 0,", counts(1, 2, 1, 2, 0, 0), "write(3, 33) -> 0,",
            counts(1, 3, 2, 3, 1, 1), "flush(3) -> 1,", counts(1, 3, 2, 3, 2, 1), "read(2) -> 22,", counts(1, 4, 3, 3, 2, 1),
            "reset(1, 1, 1, 9) -> 0,", counts(0, 0, 0, 0, 0, 0), "read(2) -> 0,", counts(0, 1, 0, 1, 0, 0));
        doc.holds(since, "read(1) -> 0, read(1) -> 0, reset(0, 1, 1, 9) -> -8,", counts(1, 1, 0, 1, 0, 0));
        doc.holds("A reference to a resident page is a hit.", "read(1) -> 0, hits() -> 0, read(1) -> 0, hits() -> 1,",
            "write(1, 11) -> 0, hits() -> 2, pin(1) -> 1, hits() -> 3, misses() -> 1, diskReads() -> 1, read(2) -> 0,",
            "hits() -> 3, unpin(1) -> 0, flush(1) -> 1, discard(1) -> 1, hits() -> 3, read(1) -> 11, hits() -> 3");
        doc.holds("Each miss that loads its value from disk counts as one disk read.", "reset(1, 1, 1, 9) -> 0, read(1) -> 0,",
            "diskReads() -> 1, write(2, 22) -> 0, diskReads() -> 2, pin(3) -> 1, diskReads() -> 3, pin(3) -> 2,",
            "diskReads() -> 3, unpin(3) -> 1, unpin(3) -> 0, read(2) -> 22, diskReads() -> 3, diskValue(2) -> 0,",
            "diskReads() -> 3, misses() -> 4");
        doc.holds("Each value written to disk, by a stall or by flush, flushAll or drain, counts as one disk write.",
            "reset(1, 1, 2, 9) -> 0,", Runs.repeat(4, 1, "write(#, ##) -> 0,"), "stalls() -> 1, diskWrites() -> 1,",
            "flush(4) -> 1, diskWrites() -> 2, flush(3) -> 1, diskWrites() -> 3, flush(3) -> 0, diskWrites() -> 3,",
            "drain(2) -> 1, diskWrites() -> 4, drain(2) -> 0, diskWrites() -> 4, write(5, 55) -> 0, write(6, 66) -> 0,",
            "flushAll() -> 2, diskWrites() -> 6, flushAll() -> 0, diskWrites() -> 6, stalls() -> 1, write(7, 77) -> 0,",
            "discard(7) -> 1, diskWrites() -> 6");
    }

    private static void queries(Sentences doc) {
        doc.holds("A query method never changes a counter.", "reset(2, 2, 1, 9) -> 0,", Runs.repeat(4, 1, "write(#, ##) -> 0,"),
            "read(4) -> 44,", counts(1, 4, 2, 4, 1, 1), Runs.repeat(2, 0, "isResident(4) -> 1, isResident(1) -> 0,"
            + " isResident(64) -> -1, isDirty(4) -> 1, isDirty(2) -> -4, isDirty(-1) -> -1, pinCount(4) -> 0, pinCount(2) -> -4,"
            + " pinCount(64) -> -1, referenceTime(4, 2) -> 4, referenceTime(3, 2) -> -9, referenceTime(3, 3) -> -8,"
            + " referenceTime(64, 1) -> -1, backwardKDistance(4) -> 1, backwardKDistance(3) -> -9, backwardKDistance(-1) -> -1,"
            + " victim() -> 3, diskValue(1) -> 11, diskValue(64) -> -1, residentCount() -> 2, residentPage(1) -> 4,"
            + " residentPage(2) -> -9, queueSize() -> 1, queuedPage(0) -> 2, queuedPage(1) -> -9, queuedValue(0) -> 22,"
            + " queuedValue(-1) -> -9, clock() -> 5,"), counts(1, 4, 2, 4, 1, 1), counts(1, 4, 2, 4, 1, 1));
    }

    private static String counts(int hits, int misses, int evictions, int diskReads, int diskWrites, int stalls) {
        return "hits() -> " + hits + ", misses() -> " + misses + ", evictions() -> " + evictions + ", diskReads() -> "
            + diskReads + ", diskWrites() -> " + diskWrites + ", stalls() -> " + stalls + ",";
    }

    private static void newCache(Sentences doc) {
        String fresh = "A new cache has capacity 4, K = 2, queue capacity 3 and retention period 100.";
        doc.holds(fresh, Runs.repeat(4, 0, "read(#) -> 0,"), "residentCount() -> 4, evictions() -> 0, read(4) -> 0,",
            "residentCount() -> 4, evictions() -> 1");
        doc.holds(fresh, "read(0) -> 0, referenceTime(0, 2) -> -9, referenceTime(0, 3) -> -8");
        doc.holds(fresh, Runs.repeat(7, 0, "write(#, 5) -> 0,"), "queueSize() -> 3, stalls() -> 0, write(7, 5) -> 0,",
            "queueSize() -> 3, stalls() -> 1");
        doc.holds(fresh, Runs.repeat(5, 0, "read(#) -> 0,"), Runs.repeat(95, 0, "read(4) -> 0,"), "read(0) -> 0,",
            "referenceTime(0, 1) -> 101, referenceTime(0, 2) -> 1");
        doc.holds(fresh, Runs.repeat(5, 0, "read(#) -> 0,"), Runs.repeat(96, 0, "read(4) -> 0,"), "read(0) -> 0,",
            "referenceTime(0, 1) -> 102, referenceTime(0, 2) -> -9");
    }

    private static void constants(Sentences doc) {
        doc.namesNoCase("The constants:");
        doc.holds("`NO_SUCH_PAGE = -1`: The page number is not from 0 to 63.", "read(-1) -> -1, read(0) -> 0, read(63) -> 0,",
            "read(64) -> -1");
        doc.holds("`BAD_VALUE = -2`: The value is not from 0 to 9999.", "write(1, -1) -> -2, write(1, 0) -> 0,",
            "write(1, 9999) -> 0, write(1, 10000) -> -2, read(1) -> 9999");
        String pinned = "`ALL_PINNED = -3`: The page is not resident, no frame is free, and every resident page is pinned.";
        doc.holds(pinned, "reset(2, 1, 1, 9) -> 0, pin(1) -> 1, read(2) -> 0, read(3) -> 0, pin(3) -> 1, read(2) -> -3,",
            "write(2, 5) -> -3, pin(2) -> -3, read(1) -> 0, write(3, 5) -> 0, pin(1) -> 2");
        doc.holds(pinned, "reset(2, 1, 1, 9) -> 0, pin(1) -> 1, pin(2) -> 1, read(3) -> -3, unpin(1) -> 0, read(3) -> 0,",
            "pin(3) -> 1, read(4) -> -3, unpin(3) -> 0, discard(3) -> 1, read(4) -> 0");
        doc.holds("`NOT_RESIDENT = -4`: The page is not resident.", "unpin(1) -> -4, isDirty(1) -> -4, pinCount(1) -> -4,",
            "read(1) -> 0, isDirty(1) -> 0, pinCount(1) -> 0");
        doc.holds("`NOT_PINNED = -5`: The page is resident but its pin count is 0.", "unpin(1) -> -4, read(1) -> 0,",
            "unpin(1) -> -5, pin(1) -> 1, unpin(1) -> 0, unpin(1) -> -5");
        doc.holds("`PIN_LIMIT = -6`: The pin count of the page is already 9, the maximum.", Runs.repeat(9, 1, "pin(1) -> #,"),
            "pin(1) -> -6, pinCount(1) -> 9, unpin(1) -> 8, pin(1) -> 9, pin(1) -> -6");
        doc.holds("`PAGE_PINNED = -7`: The page is pinned, so it cannot be discarded.", "pin(1) -> 1, discard(1) -> -7,",
            "isResident(1) -> 1, unpin(1) -> 0, discard(1) -> 1");
        doc.holds("`BAD_ARGUMENT = -8`: A parameter of reset, the count of drain, or the index of referenceTime is out of range.",
            "reset(0, 1, 1, 0) -> -8, reset(1, 0, 1, 0) -> -8, reset(1, 1, 0, 0) -> -8, reset(1, 1, 1, -1) -> -8,",
            "drain(-1) -> -8, drain(9) -> -8, referenceTime(1, 0) -> -8, referenceTime(1, 3) -> -8");
        doc.holds("`NONE = -9`: There is no such reference, page or queue entry.", "referenceTime(1, 1) -> -9,",
            "backwardKDistance(1) -> -9, victim() -> -9, residentPage(0) -> -9, queuedPage(0) -> -9, queuedValue(0) -> -9");
        doc.namesNoCase("The constructor and the methods follow, a promise each: the signature, then what it does.");
    }
}
