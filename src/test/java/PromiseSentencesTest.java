import java.io.IOException;

/** The promises 1 to 29, sentence by sentence. The path of the document is the second argument. */
public final class PromiseSentencesTest {
    private static final String PAGE = "`page`: the page number";
    private static final String CHECKED_FIRST = "NO_SUCH_PAGE if the page number is out of range (checked first);";
    private static final String CANNOT_LOAD = "ALL_PINNED if the page would have to be loaded and cannot be.";
    /** Beside the nearest ones: numbers that a mask or a narrower type would take for a page or a position. */
    private static final int[] OUT_OF_RANGE = {-1, 64, 65, -64, 128, 256, 65536, Integer.MIN_VALUE, Integer.MAX_VALUE};
    /** Pages 1 and 2 are resident and pinned, pages 3 and 4 fill the queue with values 33 and 44; the clock is 6. */
    private static final String ALL_PINNED = "reset(2, 2, 2, 9) -> 0, write(3, 33) -> 0, write(4, 44) -> 0, write(1, 11) -> 0,"
        + " write(2, 22) -> 0, pin(1) -> 1, pin(2) -> 1,";
    /** Page 1 is in the queue with value 11, page 2 is resident and clean; the clock is 2. */
    private static final String ONE_QUEUED = "reset(1, 2, 1, 9) -> 0, write(1, 11) -> 0, read(2) -> 0,";

    public static void main(String[] args) throws IOException {
        Runs runs = new Runs();
        Sentences doc = new Sentences(runs, args[1], "Promise");
        newObject(doc);
        reset(doc);
        resetParameters(doc);
        resetRefusals(doc);
        read(doc);
        write(doc);
        writeRefusals(doc);
        pin(doc);
        unpin(doc);
        flush(doc);
        flushAll(doc);
        drain(doc);
        discard(doc);
        discardAnswers(doc);
        isResident(doc);
        isDirty(doc);
        pinCount(doc);
        referenceTime(doc);
        referenceTimeRefusals(doc);
        backwardKDistance(doc);
        victim(doc);
        diskValue(doc);
        residentCount(doc);
        residentPage(doc);
        queueSize(doc);
        queuedPage(doc);
        queuedValue(doc);
        clock(doc);
        hitsAndMisses(doc);
        evictions(doc);
        diskReadsAndWrites(doc);
        stalls(doc);
        doc.allQuoted();
        runs.end();
    }

    /** Calls of a method with each page, position or index out of range, all with one answer. */
    private static String outOfRange(String before, String after, int answer) {
        return Runs.each(OUT_OF_RANGE.length, 0, i -> before + OUT_OF_RANGE[i] + after + " -> " + answer + ",");
    }

    private static String noSuchPage(String name) {
        return outOfRange(name + "(", ")", -1);
    }

    private static void newObject(Sentences doc) {
        doc.section("Promise 1: A new object");
        String sentence = "Creates an empty cache with capacity 4, K = 2, queue capacity 3 and retention period 100.";
        doc.holds(sentence, "residentCount() -> 0, queueSize() -> 0, victim() -> -9, residentPage(0) -> -9,",
            "queuedPage(0) -> -9, queuedValue(0) -> -9, clock() -> 0, hits() -> 0, misses() -> 0, evictions() -> 0,",
            "diskReads() -> 0, diskWrites() -> 0, stalls() -> 0, flushAll() -> 0, drain(8) -> 0,",
            Runs.repeat(64, 0, "isResident(#) -> 0, referenceTime(#, 1) -> -9, backwardKDistance(#) -> -9, diskValue(#) -> 0,"));
        doc.holds(sentence, Runs.repeat(4, 0, "pin(#) -> 1,"), "residentCount() -> 4, pin(4) -> -3, residentCount() -> 4");
        doc.holds(sentence, "read(0) -> 0, backwardKDistance(0) -> -9, read(0) -> 0, backwardKDistance(0) -> 1,",
            "referenceTime(0, 2) -> 1, referenceTime(0, 3) -> -8");
        doc.holds(sentence, Runs.repeat(7, 0, "write(#, 5) -> 0,"), "queueSize() -> 3, stalls() -> 0, write(7, 5) -> 0,",
            "queueSize() -> 3, stalls() -> 1, diskValue(0) -> 5");
        doc.holds(sentence, Runs.repeat(5, 0, "read(#) -> 0,"), Runs.repeat(95, 0, "read(4) -> 0,"), "read(0) -> 0,",
            "referenceTime(0, 1) -> 101, referenceTime(0, 2) -> 1");
        doc.holds(sentence, Runs.repeat(5, 0, "read(#) -> 0,"), Runs.repeat(96, 0, "read(4) -> 0,"), "read(0) -> 0,",
            "referenceTime(0, 1) -> 102, referenceTime(0, 2) -> -9");
    }

    private static void reset(Sentences doc) {
        doc.section("Promise 2: reset");
        String whole = "Resets the whole state to that of a new cache with the given parameters.";
        doc.holds(whole, "reset(1, 3, 1, 0) -> 0, write(1, 99) -> 0, write(2, 98) -> 0, pin(3) -> 1, read(3) -> 0,",
            "reset(4, 2, 3, 100) -> 0, write(1, 10) -> 0, write(2, 20) -> 0, read(1) -> 10, read(3) -> 0, read(4) -> 0,",
            "victim() -> 2, read(5) -> 0, isResident(2) -> 0, queuedPage(0) -> 2, queuedValue(0) -> 20, diskValue(2) -> 0,",
            "read(2) -> 20, isDirty(2) -> 1, isDirty(3) -> -4, pinCount(1) -> 0, clock() -> 7");
        doc.holds(whole, "reset(2, 3, 2, 5) -> 0, reset(2, 3, 2, 5) -> 0, read(1) -> 0, reset(1, 1, 1, 0) -> 0, read(1) -> 0,",
            "referenceTime(1, 1) -> 1, referenceTime(1, 2) -> -8, read(2) -> 0, residentCount() -> 1");
        String empty = "The cache and the write-back queue become empty, all histories are deleted, every disk page becomes 0,"
            + " and the clock and all counters become 0.";
        doc.holds(empty, "reset(16, 1, 8, 0) -> 0,", Runs.repeat(64, 0, "write(#, 1#) -> 0,"), "read(63) -> 163,",
            "residentCount() -> 16, queueSize() -> 8, evictions() -> 48, stalls() -> 40, flushAll() -> 24, diskWrites() -> 64,",
            "reset(16, 1, 8, 0) -> 0, residentCount() -> 0, queueSize() -> 0, clock() -> 0, hits() -> 0, misses() -> 0,",
            "evictions() -> 0, diskReads() -> 0, diskWrites() -> 0, stalls() -> 0, flushAll() -> 0,",
            Runs.repeat(64, 0, "diskValue(#) -> 0, referenceTime(#, 1) -> -9, isResident(#) -> 0,"));
        doc.holds(empty, ALL_PINNED, "pin(1) -> 2, stalls() -> 0, reset(2, 2, 2, 9) -> 0, residentCount() -> 0,",
            "residentPage(0) -> -9, queueSize() -> 0, queuedPage(0) -> -9, queuedValue(0) -> -9, drain(8) -> 0,",
            "flushAll() -> 0, discard(1) -> 0, discard(3) -> 0, victim() -> -9, unpin(1) -> -4, read(3) -> 0, isDirty(3) -> 0,",
            "read(1) -> 0, isDirty(1) -> 0, pinCount(1) -> 0, referenceTime(1, 1) -> 2, referenceTime(1, 2) -> -9");
        doc.holds(empty, "reset(1, 1, 1, 0) -> 0, clock() -> 0, misses() -> 0, residentCount() -> 0, queueSize() -> 0");
        for (int page : new int[] {0, 63}) {
            doc.holds(empty, Runs.repeat(1, page, "pin(#) -> 1, write(#, 5) -> 0, reset(4, 2, 3, 100) -> 0, isResident(#) -> 0,"
                + " pinCount(#) -> -4, isDirty(#) -> -4, victim() -> -9, flush(#) -> 0, discard(#) -> 0, read(#) -> 0,"
                + " misses() -> 1, diskReads() -> 1, isDirty(#) -> 0, pinCount(#) -> 0, referenceTime(#, 2) -> -9"));
        }
    }

    private static void resetParameters(Sentences doc) {
        String capacity = "`capacity`: the number of frames, 1 to 16";
        doc.holds(capacity, "reset(0, 2, 3, 9) -> -8, reset(1, 2, 3, 9) -> 0, read(0) -> 0, evictions() -> 0, read(1) -> 0,",
            "evictions() -> 1, residentCount() -> 1");
        doc.holds(capacity, "reset(17, 2, 3, 9) -> -8, reset(16, 2, 3, 9) -> 0,", Runs.repeat(16, 48, "read(#) -> 0,"),
            "evictions() -> 0, residentCount() -> 16, read(0) -> 0, evictions() -> 1, residentCount() -> 16");
        doc.holds(capacity, outOfRange("reset(", ", 2, 3, 9)", -8),
            Runs.repeat(16, 1, "reset(#, 2, 3, 9) -> 0,"), "reset(17, 2, 3, 9) -> -8");
        String k = "`k`: the K of LRU-K, 1 to 3";
        doc.holds(k, "reset(4, 0, 3, 9) -> -8, reset(4, 1, 3, 9) -> 0, read(0) -> 0, read(0) -> 0, referenceTime(0, 1) -> 2,",
            "referenceTime(0, 2) -> -8, backwardKDistance(0) -> 0");
        doc.holds(k, "reset(4, 4, 3, 9) -> -8, reset(4, 3, 3, 9) -> 0, read(0) -> 0, read(0) -> 0, backwardKDistance(0) -> -9,",
            "read(0) -> 0, referenceTime(0, 3) -> 1, referenceTime(0, 4) -> -8, backwardKDistance(0) -> 2");
        doc.holds(k, outOfRange("reset(4, ", ", 3, 9)", -8), "reset(4, 1, 3, 9) -> 0, reset(4, 2, 3, 9) -> 0,",
            "reset(4, 3, 3, 9) -> 0");
        String queue = "`queueCapacity`: the maximum number of entries in the write-back queue, 1 to 8";
        doc.holds(queue, "reset(1, 2, 0, 9) -> -8, reset(1, 2, 1, 9) -> 0, write(1, 11) -> 0, write(2, 22) -> 0,",
            "queueSize() -> 1, stalls() -> 0, write(3, 33) -> 0, queueSize() -> 1, stalls() -> 1");
        doc.holds(queue, "reset(1, 2, 9, 9) -> -8, reset(1, 2, 8, 9) -> 0,", Runs.repeat(9, 0, "write(#, 5) -> 0,"),
            "queueSize() -> 8, stalls() -> 0, write(9, 5) -> 0, queueSize() -> 8, stalls() -> 1");
        doc.holds(queue, outOfRange("reset(4, 2, ", ", 9)", -8), Runs.repeat(8, 1, "reset(4, 2, #, 9) -> 0,"),
            "reset(4, 2, 9, 9) -> -8");
        String retention = "`retention`: the retention period, 0 to 9999";
        doc.holds(retention, "reset(1, 2, 1, -1) -> -8, reset(1, 2, 1, 0) -> 0, read(1) -> 0, read(2) -> 0, read(1) -> 0,",
            "referenceTime(1, 2) -> -9");
        doc.holds(retention, "reset(1, 2, 1, 10000) -> -8, reset(1, 2, 1, 9999) -> 0, read(1) -> 0,",
            Runs.repeat(500, 0, "read(2) -> 0,"), "read(1) -> 0, referenceTime(1, 2) -> 1");
        doc.holds(retention, "reset(4, 2, 3, 1) -> 0, reset(4, 2, 3, 9998) -> 0, reset(4, 2, 3, -10000) -> -8,",
            "reset(4, 2, 3, 65536) -> -8, reset(4, 2, 3, " + Integer.MIN_VALUE + ") -> -8,",
            "reset(4, 2, 3, " + Integer.MAX_VALUE + ") -> -8");
    }

    private static void resetRefusals(Sentences doc) {
        String returns = "Returns 0, or BAD_ARGUMENT if any argument is out of range.";
        doc.holds(returns, "reset(1, 1, 1, 0) -> 0, reset(16, 3, 8, 9999) -> 0, reset(0, 3, 8, 9999) -> -8,",
            "reset(16, 0, 8, 9999) -> -8, reset(16, 3, 0, 9999) -> -8, reset(16, 3, 8, -1) -> -8, reset(17, 1, 1, 0) -> -8,",
            "reset(1, 4, 1, 0) -> -8, reset(1, 1, 9, 0) -> -8, reset(1, 1, 1, 10000) -> -8, reset(0, 0, 0, -1) -> -8,",
            "reset(17, 4, 9, 10000) -> -8, reset(0, 4, 1, 0) -> -8, reset(1, 1, 0, 10000) -> -8");
        for (String refused : new String[] {"reset(0, 1, 1, 0)", "reset(1, 0, 1, 0)", "reset(1, 1, 0, 0)",
                "reset(1, 1, 1, -1)", "reset(17, 1, 1, 0)", "reset(1, 4, 1, 0)", "reset(1, 1, 9, 0)", "reset(1, 1, 1, 10000)"}) {
            doc.holds(returns, ALL_PINNED, refused + " -> -8, clock() -> 6, residentCount() -> 2, pinCount(1) -> 1,",
                "queueSize() -> 2, queuedValue(1) -> 44, referenceTime(1, 2) -> 3, misses() -> 4, unpin(2) -> 0,",
                "read(3) -> 33, stalls() -> 1, queueSize() -> 2, residentCount() -> 2, referenceTime(3, 2) -> 1");
        }
    }

    private static void read(Sentences doc) {
        doc.section("Promise 3: read");
        doc.holds("References a page and returns its value.", "read(1) -> 0, clock() -> 1, referenceTime(1, 1) -> 1,",
            "misses() -> 1, read(1) -> 0, clock() -> 2, hits() -> 1, referenceTime(1, 2) -> 1, isDirty(1) -> 0,",
            "pinCount(1) -> 0");
        doc.holds("References a page and returns its value.", ONE_QUEUED, "read(1) -> 11, drain(8) -> 0, flush(1) -> 1,",
            "read(2) -> 0, read(1) -> 11");
        doc.holds(PAGE, "read(0) -> 0, read(63) -> 0, residentPage(0) -> 0, residentPage(1) -> 63, residentCount() -> 2");
        doc.holds("Returns the value of the page, 0 to 9999;", "write(1, 9999) -> 0, read(1) -> 9999, write(1, 0) -> 9999,",
            "read(1) -> 0");
        doc.holds(CHECKED_FIRST, noSuchPage("read"), "clock() -> 0, misses() -> 0");
        doc.holds(CHECKED_FIRST, ALL_PINNED, noSuchPage("read"), "read(5) -> -3, clock() -> 6");
        doc.holds(CANNOT_LOAD, ALL_PINNED, "read(5) -> -3, read(3) -> -3, read(1) -> 11, read(2) -> 22, clock() -> 8,",
            "misses() -> 4, queueSize() -> 2, stalls() -> 0, unpin(2) -> 0, read(5) -> 0, clock() -> 9, isResident(2) -> 0");
        doc.holds(CANNOT_LOAD, "reset(16, 1, 1, 9) -> 0,", Runs.repeat(16, 0, "pin(#) -> 1, read(#) -> 0,"),
            "read(16) -> -3, unpin(7) -> 0, read(16) -> 0, isResident(7) -> 0");
    }

    private static void write(Sentences doc) {
        doc.section("Promise 4: write");
        doc.holds("References a page, sets its value and makes it dirty.", "write(1, 11) -> 0, clock() -> 1,",
            "referenceTime(1, 1) -> 1, isDirty(1) -> 1, diskValue(1) -> 0, write(1, 12) -> 11, clock() -> 2, hits() -> 1,",
            "read(1) -> 12, pinCount(1) -> 0, diskWrites() -> 0");
        doc.holds("The page becomes dirty even if the value does not change.", "read(1) -> 0, write(1, 0) -> 0, isDirty(1) -> 1,",
            "write(2, 22) -> 0, flush(2) -> 1, isDirty(2) -> 0, write(2, 22) -> 22, isDirty(2) -> 1, flush(2) -> 1,",
            "write(3, 0) -> 0, isDirty(3) -> 1, flush(3) -> 1, diskWrites() -> 3");
        String loads = "A miss loads the page first, as for read, and counts a disk read if the value came from disk.";
        doc.holds(loads, "write(1, 11) -> 0, diskReads() -> 1, misses() -> 1, write(1, 12) -> 11, diskReads() -> 1,",
            "misses() -> 1");
        doc.holds(loads, ONE_QUEUED, "diskReads() -> 2, write(1, 12) -> 11, diskReads() -> 2, misses() -> 3, queueSize() -> 0");
        doc.holds(loads, "reset(1, 1, 1, 9) -> 0, write(1, 11) -> 0, write(2, 22) -> 0, write(1, 12) -> 11, stalls() -> 1,",
            "diskReads() -> 3, diskValue(1) -> 11");
        doc.holds(PAGE, "write(0, 5) -> 0, write(63, 6) -> 0, read(0) -> 5, read(63) -> 6, residentCount() -> 2");
        doc.holds("`value`: the new value", "write(1, 0) -> 0, read(1) -> 0, write(1, 1) -> 0, read(1) -> 1,",
            "write(1, 9998) -> 1, read(1) -> 9998, write(1, 9999) -> 9998, read(1) -> 9999");
        doc.holds("Returns the previous value of the page;", "write(1, 9999) -> 0, write(1, 0) -> 9999, write(1, 7) -> 0,",
            "flush(1) -> 1, discard(1) -> 1, write(1, 8) -> 7, discard(1) -> 1, write(1, 9) -> 7");
    }

    private static void writeRefusals(Sentences doc) {
        doc.holds(CHECKED_FIRST, outOfRange("write(", ", 5)", -1), outOfRange("write(", ", -1)", -1),
            outOfRange("write(", ", 10000)", -1), "clock() -> 0, residentCount() -> 0");
        doc.holds(CHECKED_FIRST, ALL_PINNED, outOfRange("write(", ", 5)", -1), outOfRange("write(", ", 10000)", -1),
            "clock() -> 6");
        String second = "BAD_VALUE if the value is out of range (checked second);";
        doc.holds(second, "write(1, -1) -> -2, write(1, 10000) -> -2, write(1, 65536) -> -2, write(1, -9999) -> -2,",
            "write(1, " + Integer.MIN_VALUE + ") -> -2, write(1, " + Integer.MAX_VALUE + ") -> -2, clock() -> 0,",
            "residentCount() -> 0, write(1, 9999) -> 0, write(1, 10000) -> -2, write(1, -1) -> -2, read(1) -> 9999,",
            "clock() -> 2");
        doc.holds(second, ALL_PINNED, "write(5, -1) -> -2, write(5, 10000) -> -2, write(5, 0) -> -3, write(5, 9999) -> -3,",
            "write(3, 10000) -> -2, clock() -> 6");
        doc.holds(CANNOT_LOAD, ALL_PINNED, "write(5, 55) -> -3, write(3, 55) -> -3, queuedValue(0) -> 33, clock() -> 6,",
            "misses() -> 4, write(1, 12) -> 11, write(2, 23) -> 22, unpin(1) -> 0, write(5, 55) -> 0, isResident(1) -> 0");
    }

    private static void pin(Sentences doc) {
        doc.section("Promise 5: pin");
        doc.holds("References a page and increases its pin count by 1.", "pin(1) -> 1, clock() -> 1, misses() -> 1,",
            "referenceTime(1, 1) -> 1, pinCount(1) -> 1, isDirty(1) -> 0, pin(1) -> 2, clock() -> 2, hits() -> 1,",
            "referenceTime(1, 2) -> 1, pinCount(1) -> 2, read(1) -> 0, pinCount(1) -> 2, write(1, 5) -> 0, pinCount(1) -> 2");
        doc.holds(PAGE, "pin(0) -> 1, pin(63) -> 1, pinCount(0) -> 1, pinCount(63) -> 1, residentCount() -> 2");
        doc.holds("Returns the new pin count, 1 to 9;", Runs.repeat(9, 1, "pin(1) -> #, pinCount(1) -> #,"),
            "pin(2) -> 1, clock() -> 10");
        doc.holds(CHECKED_FIRST, noSuchPage("pin"), "clock() -> 0, residentCount() -> 0");
        doc.holds(CHECKED_FIRST, ALL_PINNED, noSuchPage("pin"), "clock() -> 6");
        String limit = "PIN_LIMIT if the page is resident and its pin count is 9;";
        doc.holds(limit, Runs.repeat(9, 1, "pin(1) -> #,"), "pin(1) -> -6, pin(1) -> -6, pinCount(1) -> 9, clock() -> 9,",
            "hits() -> 8, referenceTime(1, 1) -> 9, pin(2) -> 1, unpin(1) -> 8, pin(1) -> 9, pin(1) -> -6");
        doc.holds(limit, "reset(1, 1, 1, 9) -> 0,", Runs.repeat(9, 1, "pin(1) -> #,"), "pin(1) -> -6, pin(2) -> -3,",
            "read(1) -> 0, write(1, 5) -> 0, clock() -> 11");
        doc.holds(CANNOT_LOAD, ALL_PINNED, "pin(5) -> -3, pin(3) -> -3, pin(1) -> 2, clock() -> 7, misses() -> 4, unpin(2) -> 0,",
            "pin(5) -> 1, isResident(2) -> 0, pin(2) -> -3");
    }

    private static void unpin(Sentences doc) {
        doc.section("Promise 6: unpin");
        doc.holds("Decreases the pin count of a resident page by 1.", "pin(1) -> 1, pin(1) -> 2, pin(2) -> 1, unpin(1) -> 1,",
            "pinCount(1) -> 1, pinCount(2) -> 1, unpin(1) -> 0, pinCount(1) -> 0, isResident(1) -> 1");
        doc.holds("This is not a reference.", "pin(1) -> 1, unpin(1) -> 0, clock() -> 1, hits() -> 0, misses() -> 1,",
            "referenceTime(1, 1) -> 1, referenceTime(1, 2) -> -9");
        doc.holds(PAGE, "pin(0) -> 1, pin(63) -> 1, unpin(0) -> 0, pinCount(63) -> 1, unpin(63) -> 0");
        doc.holds("Returns the new pin count, 0 to 8;", Runs.repeat(9, 1, "pin(1) -> #,"),
            Runs.each(9, 0, i -> "unpin(1) -> " + (8 - i) + ", pinCount(1) -> " + (8 - i) + ","), "clock() -> 9");
        doc.holds(CHECKED_FIRST, noSuchPage("unpin"), ALL_PINNED, noSuchPage("unpin"), "pinCount(1) -> 1");
        String resident = "NOT_RESIDENT if the page is not resident;";
        doc.holds(resident, "unpin(1) -> -4, pin(1) -> 1, unpin(1) -> 0, discard(1) -> 1, unpin(1) -> -4");
        doc.holds(resident, ONE_QUEUED, "unpin(1) -> -4, queuedPage(0) -> 1, drain(1) -> 1, unpin(1) -> -4");
        doc.holds("NOT_PINNED if its pin count is 0.", "read(1) -> 0, unpin(1) -> -5, pinCount(1) -> 0, pin(1) -> 1,",
            "unpin(1) -> 0, unpin(1) -> -5, unpin(1) -> -5, pinCount(1) -> 0, pin(1) -> 1");
    }

    private static void flush(Sentences doc) {
        doc.section("Promise 7: flush");
        doc.holds("Writes one page to disk if it has changes that are not yet on disk.", "write(1, 11) -> 0, write(2, 22) -> 0,",
            "flush(1) -> 1, diskValue(1) -> 11, diskValue(2) -> 0, isDirty(2) -> 1, diskWrites() -> 1, flush(1) -> 0,",
            "diskWrites() -> 1, read(3) -> 0, flush(3) -> 0, diskWrites() -> 1");
        doc.holds("A dirty resident page is written and becomes clean; it stays resident, and it may be pinned.",
            "write(1, 11) -> 0, pin(1) -> 1, flush(1) -> 1, isDirty(1) -> 0, isResident(1) -> 1, pinCount(1) -> 1,",
            "diskValue(1) -> 11, write(2, 22) -> 0, flush(2) -> 1, isDirty(2) -> 0, isResident(2) -> 1, read(2) -> 22,",
            "write(2, 0) -> 22, flush(2) -> 1, diskValue(2) -> 0, residentCount() -> 2, evictions() -> 0");
        String queued = "A page in the write-back queue is written and its entry is removed.";
        for (int page = 1; page <= 3; page++) {
            doc.holds(queued, "reset(1, 1, 3, 9) -> 0,", Runs.repeat(3, 1, "write(#, ##) -> 0,"), "read(4) -> 0,",
                Runs.repeat(1, page, "flush(#) -> 1, diskValue(#) -> ##, isResident(#) -> 0, flush(#) -> 0,"),
                "queueSize() -> 2, queuedPage(0) -> " + (page == 1 ? 2 : 1) + ", queuedPage(1) -> " + (page == 3 ? 2 : 3) + ",",
                "queuedPage(2) -> -9, diskWrites() -> 1, stalls() -> 0, residentCount() -> 1");
        }
        doc.holds(queued, ONE_QUEUED, "flush(1) -> 1, queueSize() -> 0, diskValue(1) -> 11, isResident(1) -> 0");
        doc.holds("This is not a reference.", ONE_QUEUED, "write(2, 22) -> 0, flush(1) -> 1, flush(2) -> 1, flush(3) -> 0,",
            "clock() -> 3, hits() -> 1, misses() -> 2, diskReads() -> 2, referenceTime(1, 1) -> 1, referenceTime(2, 1) -> 3,",
            "referenceTime(3, 1) -> -9, isResident(3) -> 0");
        doc.holds(PAGE, "write(0, 5) -> 0, write(63, 6) -> 0, flush(63) -> 1, isDirty(0) -> 1, flush(0) -> 1, diskValue(0) -> 5,",
            "diskValue(63) -> 6");
        doc.holds("Returns 1 if the page was written;", "write(1, 0) -> 0, flush(1) -> 1, write(1, 0) -> 0, flush(1) -> 1,",
            "diskWrites() -> 2");
        String neither = "0 if it was neither dirty and resident nor in the queue;";
        doc.holds(neither, "flush(0) -> 0, flush(63) -> 0, read(1) -> 0, flush(1) -> 0, pin(1) -> 1, flush(1) -> 0,",
            "write(1, 5) -> 0, discard(1) -> -7, unpin(1) -> 0, discard(1) -> 1, flush(1) -> 0, diskWrites() -> 0");
        doc.holds(neither, ONE_QUEUED, "drain(1) -> 1, flush(1) -> 0, flush(2) -> 0, diskWrites() -> 1");
        doc.holds("NO_SUCH_PAGE if the page number is out of range.", ALL_PINNED, noSuchPage("flush"), "diskWrites() -> 0,",
            "queueSize() -> 2, isDirty(1) -> 1");
    }

    private static void flushAll(Sentences doc) {
        doc.section("Promise 8: flushAll");
        String all = "Writes all entries of the write-back queue to disk, the oldest first, and removes them, and then writes all"
            + " dirty resident pages, which become clean.";
        doc.holds(all, ALL_PINNED, "flushAll() -> 4, queueSize() -> 0, queuedPage(0) -> -9, isDirty(1) -> 0, isDirty(2) -> 0,",
            Runs.repeat(4, 1, "diskValue(#) -> ##,"), "residentCount() -> 2, pinCount(1) -> 1, pinCount(2) -> 1, clock() -> 6,",
            "stalls() -> 0, evictions() -> 2, diskWrites() -> 4, hits() -> 2, referenceTime(3, 1) -> 1");
        doc.holds(all, "flushAll() -> 0, diskWrites() -> 0, read(1) -> 0, flushAll() -> 0, diskWrites() -> 0");
        doc.holds(all, ONE_QUEUED, "flushAll() -> 1, diskValue(1) -> 11, queueSize() -> 0, isResident(2) -> 1, flushAll() -> 0");
        doc.holds(all, "write(0, 5) -> 0, read(1) -> 0, write(63, 6) -> 0, flushAll() -> 2, diskValue(0) -> 5,",
            "diskValue(63) -> 6, isDirty(0) -> 0, isDirty(1) -> 0, isDirty(63) -> 0");
        String number = "Returns the number of pages written by this call.";
        doc.holds(number, "reset(16, 1, 8, 9) -> 0,", Runs.repeat(24, 40, "write(#, #) -> 0,"), "flushAll() -> 24,",
            Runs.repeat(24, 40, "diskValue(#) -> #,"), "flushAll() -> 0, diskWrites() -> 24");
        doc.holds(number, "write(1, 11) -> 0, flush(1) -> 1, write(2, 22) -> 0, flushAll() -> 1, diskWrites() -> 2");
    }

    private static void drain(Sentences doc) {
        doc.section("Promise 9: drain");
        String five = "reset(1, 1, 8, 9) -> 0, " + Runs.repeat(6, 1, "write(#, ##) -> 0,");
        String until = "Writes the oldest entries of the write-back queue to disk and removes them, until the given number of"
            + " entries has been written or the queue is empty.";
        doc.holds(until, five, "drain(2) -> 2, diskValue(1) -> 11, diskValue(2) -> 22, diskValue(3) -> 0, queueSize() -> 3,",
            "queuedPage(0) -> 3, queuedValue(0) -> 33, diskWrites() -> 2, isDirty(6) -> 1, diskValue(6) -> 0, clock() -> 6,",
            "stalls() -> 0, evictions() -> 5");
        doc.holds(until, five, "drain(4) -> 4, queueSize() -> 1, queuedPage(0) -> 5, drain(2) -> 1, queueSize() -> 0,",
            "diskWrites() -> 5");
        doc.holds(until, five, "drain(5) -> 5, queueSize() -> 0, diskWrites() -> 5");
        doc.holds(until, five, "drain(6) -> 5, queueSize() -> 0, diskWrites() -> 5, drain(1) -> 0, diskWrites() -> 5");
        String count = "`count`: the maximum number of entries to write, 0 to 8";
        doc.holds(count, five, "drain(0) -> 0, queueSize() -> 5, diskWrites() -> 0, drain(1) -> 1, queueSize() -> 4,",
            "drain(8) -> 4, queueSize() -> 0");
        doc.holds(count, "reset(1, 1, 8, 9) -> 0,", Runs.repeat(9, 1, "write(#, ##) -> 0,"), "drain(8) -> 8, queueSize() -> 0,",
            Runs.repeat(8, 1, "diskValue(#) -> ##,"), "diskValue(9) -> 0, diskWrites() -> 8");
        doc.holds(count, "reset(1, 1, 8, 9) -> 0,", Runs.repeat(9, 1, "write(#, ##) -> 0,"), "drain(7) -> 7, queueSize() -> 1,",
            "queuedPage(0) -> 8, drain(8) -> 1");
        String returns = "Returns the number of entries written, or BAD_ARGUMENT if count is out of range.";
        doc.holds(returns, "drain(0) -> 0, drain(8) -> 0, drain(-1) -> -8, drain(9) -> -8");
        doc.holds(returns, five, "drain(9) -> -8,", outOfRange("drain(", ")", -8), "queueSize() -> 5, diskWrites() -> 0,",
            "drain(3) -> 3");
    }

    private static void discard(Sentences doc) {
        doc.section("Promise 10: discard");
        String removes = "Removes a page from the cache or from the write-back queue without writing it, and deletes its history.";
        doc.holds(removes, "write(1, 11) -> 0, read(1) -> 11, write(2, 22) -> 0, discard(1) -> 1, isResident(1) -> 0,",
            "residentCount() -> 1, queueSize() -> 0, diskValue(1) -> 0, diskWrites() -> 0, referenceTime(1, 1) -> -9,",
            "referenceTime(1, 2) -> -9, backwardKDistance(1) -> -9, referenceTime(2, 1) -> 3, isDirty(2) -> 1");
        for (int page = 1; page <= 3; page++) {
            doc.holds(removes, "reset(1, 1, 3, 9) -> 0,", Runs.repeat(3, 1, "write(#, ##) -> 0,"), "read(4) -> 0,",
                Runs.repeat(1, page, "discard(#) -> 1, diskValue(#) -> 0, referenceTime(#, 1) -> -9,"), "queueSize() -> 2,",
                "queuedPage(0) -> " + (page == 1 ? 2 : 1) + ", queuedPage(1) -> " + (page == 3 ? 2 : 3) + ",",
                "queuedPage(2) -> -9, diskWrites() -> 0, referenceTime(4, 1) -> 4");
        }
        String lost = "Changes not yet written to disk are lost.";
        doc.holds(lost, "write(1, 11) -> 0, flush(1) -> 1, write(1, 12) -> 11, discard(1) -> 1, diskValue(1) -> 11,",
            "read(1) -> 11, isDirty(1) -> 0, flushAll() -> 0");
        doc.holds(lost, ONE_QUEUED, "discard(1) -> 1, queueSize() -> 0, drain(8) -> 0, flushAll() -> 0, read(1) -> 0,",
            "isDirty(1) -> 0, diskReads() -> 3");
        doc.holds("This is neither a reference nor an eviction.", ONE_QUEUED, "evictions() -> 1, discard(1) -> 1,",
            "discard(2) -> 1, discard(3) -> 0, evictions() -> 1, clock() -> 2, hits() -> 0, misses() -> 2, diskReads() -> 2,",
            "residentCount() -> 0, queueSize() -> 0, stalls() -> 0");
        String only = "A page that is neither resident nor in the queue only loses its history.";
        doc.holds(only, "reset(1, 2, 1, 99) -> 0, read(1) -> 0, read(1) -> 0, read(2) -> 0, referenceTime(1, 2) -> 1,",
            "discard(1) -> 0, referenceTime(1, 1) -> -9, backwardKDistance(1) -> -9, residentPage(0) -> 2, clock() -> 3,",
            "referenceTime(2, 1) -> 3, read(1) -> 0, referenceTime(1, 1) -> 4, referenceTime(1, 2) -> -9");
        doc.holds(only, ONE_QUEUED, "drain(1) -> 1, discard(1) -> 0, diskValue(1) -> 11, referenceTime(1, 1) -> -9,",
            "read(1) -> 11");
    }

    private static void discardAnswers(Sentences doc) {
        doc.holds(PAGE, "read(0) -> 0, read(63) -> 0, discard(0) -> 1, isResident(63) -> 1, discard(63) -> 1,",
            "residentCount() -> 0, referenceTime(0, 1) -> -9, referenceTime(63, 1) -> -9");
        doc.holds("Returns 1 if the page was resident or in the queue;", ONE_QUEUED, "discard(1) -> 1, discard(2) -> 1,",
            "discard(1) -> 0, discard(2) -> 0");
        doc.holds("0 if it was neither;", "discard(0) -> 0, discard(63) -> 0, read(1) -> 0, discard(1) -> 1, discard(1) -> 0");
        doc.holds(CHECKED_FIRST, ALL_PINNED, noSuchPage("discard"), "residentCount() -> 2, queueSize() -> 2");
        String pinned = "PAGE_PINNED if the page is pinned.";
        doc.holds(pinned, "write(1, 11) -> 0, pin(1) -> 1, discard(1) -> -7, isResident(1) -> 1, pinCount(1) -> 1,",
            "isDirty(1) -> 1, referenceTime(1, 1) -> 2, referenceTime(1, 2) -> 1, read(1) -> 11, unpin(1) -> 0,",
            "discard(1) -> 1");
        doc.holds(pinned, Runs.repeat(9, 1, "pin(1) -> #,"), "discard(1) -> -7,",
            Runs.each(8, 1, i -> "unpin(1) -> " + (9 - i) + ", discard(1) -> -7,"), "unpin(1) -> 0, discard(1) -> 1");
    }

    private static void isResident(Sentences doc) {
        doc.section("Promise 11: isResident");
        doc.holds("Returns whether a page is resident.", "isResident(1) -> 0, read(1) -> 0, isResident(1) -> 1,",
            "isResident(2) -> 0, write(2, 22) -> 0, isResident(2) -> 1, pin(3) -> 1, isResident(3) -> 1, discard(1) -> 1,",
            "isResident(1) -> 0, clock() -> 3");
        doc.holds(PAGE, "read(0) -> 0, isResident(0) -> 1, isResident(63) -> 0, discard(0) -> 1, read(63) -> 0,",
            "isResident(0) -> 0, isResident(63) -> 1");
        String returns = "Returns 1 if the page is resident, 0 if not, or NO_SUCH_PAGE if the page number is out of range.";
        doc.holds(returns, ONE_QUEUED, "isResident(1) -> 0, isResident(2) -> 1, isResident(3) -> 0");
        doc.holds(returns, noSuchPage("isResident"), ALL_PINNED, noSuchPage("isResident"), "clock() -> 6");
    }

    private static void isDirty(Sentences doc) {
        doc.section("Promise 12: isDirty");
        doc.holds("Returns whether a resident page is dirty.", "read(1) -> 0, isDirty(1) -> 0, write(1, 11) -> 0,",
            "isDirty(1) -> 1, flushAll() -> 1, isDirty(1) -> 0, clock() -> 2");
        doc.holds(PAGE, "write(0, 5) -> 0, read(63) -> 0, isDirty(0) -> 1, isDirty(63) -> 0");
        doc.holds("Returns 1 if the page is dirty, 0 if it is clean;", ONE_QUEUED, "isDirty(2) -> 0, read(1) -> 11,",
            "isDirty(1) -> 1, flush(1) -> 1, isDirty(1) -> 0");
        doc.holds(CHECKED_FIRST, noSuchPage("isDirty"), ALL_PINNED, noSuchPage("isDirty"), "clock() -> 6");
        doc.holds("NOT_RESIDENT if the page is not resident, even if it is in the write-back queue.", "isDirty(0) -> -4,",
            "isDirty(63) -> -4,", ONE_QUEUED, "queuedPage(0) -> 1, isDirty(1) -> -4, isDirty(3) -> -4, drain(1) -> 1,",
            "isDirty(1) -> -4, discard(2) -> 1, isDirty(2) -> -4");
    }

    private static void pinCount(Sentences doc) {
        doc.section("Promise 13: pinCount");
        doc.holds("Returns the pin count of a resident page.", "read(1) -> 0, pinCount(1) -> 0, pin(1) -> 1, pinCount(1) -> 1,",
            "pin(2) -> 1, pin(2) -> 2, pinCount(2) -> 2, pinCount(1) -> 1, unpin(2) -> 1, pinCount(2) -> 1, clock() -> 4");
        doc.holds(PAGE, "pin(0) -> 1, pin(63) -> 1, pin(63) -> 2, pinCount(0) -> 1, pinCount(63) -> 2");
        doc.holds("Returns the pin count, 0 to 9;", "write(1, 5) -> 0, pinCount(1) -> 0,",
            Runs.repeat(9, 1, "pin(1) -> #, pinCount(1) -> #,"), "pin(1) -> -6, pinCount(1) -> 9");
        doc.holds(CHECKED_FIRST, noSuchPage("pinCount"), ALL_PINNED, noSuchPage("pinCount"), "clock() -> 6");
        doc.holds("NOT_RESIDENT if the page is not resident.", "pinCount(0) -> -4, pinCount(63) -> -4, pin(1) -> 1,",
            "unpin(1) -> 0, discard(1) -> 1, pinCount(1) -> -4,", ONE_QUEUED, "pinCount(1) -> -4, pinCount(2) -> 0");
    }

    private static void referenceTime(Sentences doc) {
        doc.section("Promise 14: referenceTime");
        String one = "Returns the time of one remembered reference of a page, whether the page is resident or not.";
        doc.holds(one, ONE_QUEUED, "isResident(1) -> 0, referenceTime(1, 1) -> 1, isResident(2) -> 1, referenceTime(2, 1) -> 2,",
            "drain(1) -> 1, referenceTime(1, 1) -> 1, clock() -> 2");
        String until = "A history that the retention rule will delete at the next reference is still remembered until then.";
        doc.holds(until, "reset(1, 2, 1, 1) -> 0, read(1) -> 0, read(1) -> 0,", Runs.repeat(100, 0, "read(2) -> 0,"),
            "referenceTime(1, 1) -> 2, referenceTime(1, 2) -> 1, backwardKDistance(1) -> 101, read(1) -> 0,",
            "referenceTime(1, 1) -> 103, referenceTime(1, 2) -> -9");
        doc.holds(until, "reset(1, 2, 1, 0) -> 0, read(1) -> 0, read(2) -> 0, referenceTime(1, 1) -> 1, referenceTime(1, 1) -> 1,",
            "flush(1) -> 0, victim() -> 2, referenceTime(1, 1) -> 1, read(1) -> 0, referenceTime(1, 1) -> 3");
        doc.holds(PAGE, "read(0) -> 0, read(63) -> 0, referenceTime(0, 1) -> 1, referenceTime(63, 1) -> 2");
        String which = "`i`: which reference: 1 is the most recent, 2 the one before it, and so on, up to K";
        doc.holds(which, "reset(1, 1, 1, 9) -> 0, read(1) -> 0, read(1) -> 0, referenceTime(1, 1) -> 2");
        doc.holds(which, "reset(2, 2, 1, 9) -> 0, read(1) -> 0, read(2) -> 0, read(1) -> 0, referenceTime(1, 1) -> 3,",
            "referenceTime(1, 2) -> 1");
        doc.holds(which, "reset(2, 3, 1, 9) -> 0, read(1) -> 0, read(2) -> 0, pin(1) -> 1, read(2) -> 0, write(1, 5) -> 0,",
            "referenceTime(1, 1) -> 5, referenceTime(1, 2) -> 3, referenceTime(1, 3) -> 1, read(1) -> 5,",
            "referenceTime(1, 1) -> 6, referenceTime(1, 2) -> 5, referenceTime(1, 3) -> 3");
        doc.holds("Returns the time, at least 1;", "read(1) -> 0, referenceTime(1, 1) -> 1, reset(1, 1, 1, 9) -> 0, read(1) -> 0,",
            "referenceTime(1, 1) -> 1");
    }

    private static void referenceTimeRefusals(Sentences doc) {
        doc.holds(CHECKED_FIRST, outOfRange("referenceTime(", ", 1)", -1), outOfRange("referenceTime(", ", 0)", -1),
            outOfRange("referenceTime(", ", 3)", -1), outOfRange("referenceTime(", ", -1)", -1));
        String second = "BAD_ARGUMENT if i is not from 1 to K (checked second);";
        for (int k = 1; k <= 3; k++) {
            doc.holds(second, "reset(1, " + k + ", 1, 9) -> 0, referenceTime(1, 0) -> -8, referenceTime(1, 1) -> -9,",
                "referenceTime(1, " + k + ") -> -9, referenceTime(1, " + (k + 1) + ") -> -8, read(1) -> 0, read(1) -> 0,",
                "read(1) -> 0, read(1) -> 0, referenceTime(1, 0) -> -8, referenceTime(1, 1) -> 4,",
                "referenceTime(1, " + k + ") -> " + (5 - k) + ", referenceTime(1, " + (k + 1) + ") -> -8,",
                outOfRange("referenceTime(1, ", ")", -8), outOfRange("referenceTime(63, ", ")", -8), "clock() -> 4");
        }
        String fewer = "NONE if the page has fewer than i remembered references.";
        doc.holds(fewer, "reset(1, 3, 1, 9) -> 0, referenceTime(1, 1) -> -9, referenceTime(1, 2) -> -9, referenceTime(1, 3) -> -9,",
            "read(1) -> 0, referenceTime(1, 1) -> 1, referenceTime(1, 2) -> -9, referenceTime(1, 3) -> -9, read(1) -> 0,",
            "referenceTime(1, 2) -> 1, referenceTime(1, 3) -> -9, read(1) -> 0, referenceTime(1, 3) -> 1, discard(1) -> 1,",
            "referenceTime(1, 1) -> -9, referenceTime(1, 2) -> -9, referenceTime(1, 3) -> -9");
        doc.holds(fewer, "referenceTime(0, 1) -> -9, referenceTime(63, 2) -> -9, read(62) -> 0, referenceTime(63, 1) -> -9");
    }

    private static void backwardKDistance(Sentences doc) {
        doc.section("Promise 15: backwardKDistance");
        String distance = "Returns the backward K-distance of a page: the clock minus the time of its K-th most recent remembered"
            + " reference.";
        doc.holds(distance, "reset(1, 1, 1, 99) -> 0, read(1) -> 0, backwardKDistance(1) -> 0, read(2) -> 0,",
            "backwardKDistance(1) -> 1, backwardKDistance(2) -> 0, isResident(1) -> 0, read(2) -> 0, backwardKDistance(1) -> 2");
        doc.holds(distance, "reset(2, 2, 1, 99) -> 0, read(1) -> 0, read(1) -> 0, backwardKDistance(1) -> 1, read(2) -> 0,",
            "read(2) -> 0, read(2) -> 0, backwardKDistance(1) -> 4, backwardKDistance(2) -> 1, read(1) -> 0,",
            "backwardKDistance(1) -> 4, clock() -> 6");
        doc.holds(distance, "reset(2, 3, 1, 99) -> 0, read(1) -> 0, read(1) -> 0, read(1) -> 0, backwardKDistance(1) -> 2,",
            "read(2) -> 0, backwardKDistance(1) -> 3, read(1) -> 0, backwardKDistance(1) -> 3");
        doc.holds(distance, "reset(1, 1, 1, 0) -> 0, read(1) -> 0,", Runs.repeat(400, 0, "read(2) -> 0,"),
            "backwardKDistance(1) -> 400");
        doc.holds(PAGE, "reset(2, 1, 1, 9) -> 0, read(0) -> 0, read(63) -> 0, backwardKDistance(0) -> 1, backwardKDistance(63) -> 0");
        doc.holds("Returns the distance, at least 0;", "reset(1, 1, 1, 9) -> 0, read(1) -> 0, backwardKDistance(1) -> 0,",
            "flush(1) -> 0, backwardKDistance(1) -> 0");
        doc.holds(CHECKED_FIRST, noSuchPage("backwardKDistance"), ALL_PINNED, noSuchPage("backwardKDistance"), "clock() -> 6");
        String fewer = "NONE if the page has fewer than K remembered references.";
        for (int k = 1; k <= 3; k++) {
            doc.holds(fewer, "reset(1, " + k + ", 1, 9) -> 0, backwardKDistance(1) -> -9,",
                Runs.repeat(k - 1, 0, "read(1) -> 0, backwardKDistance(1) -> -9,"), "read(1) -> 0,",
                "backwardKDistance(1) -> " + (k - 1) + ", discard(1) -> 1, backwardKDistance(1) -> -9");
        }
    }

    private static void victim(Sentences doc) {
        doc.section("Promise 16: victim");
        String would = "Returns the page that would be evicted if a page had to be loaded into a full cache now.";
        doc.holds(would, "reset(3, 2, 1, 99) -> 0, read(1) -> 0, read(1) -> 0, read(2) -> 0, read(3) -> 0, victim() -> 2,",
            "victim() -> 2, read(4) -> 0, isResident(2) -> 0, victim() -> 3, read(5) -> 0, isResident(3) -> 0, victim() -> 4,",
            "pin(4) -> 1, victim() -> 5, clock() -> 7, evictions() -> 2");
        String free = "The replacement rule above is used, even if a frame is free.";
        doc.holds(free, "read(1) -> 0, victim() -> 1, read(2) -> 0, victim() -> 1, read(1) -> 0, victim() -> 2, read(2) -> 0,",
            "victim() -> 1, residentCount() -> 2, evictions() -> 0, read(3) -> 0, victim() -> 3, discard(3) -> 1, victim() -> 1");
        doc.holds(free, "read(0) -> 0, victim() -> 0, discard(0) -> 1, read(63) -> 0, victim() -> 63");
        String none = "Returns the page number of the victim, or NONE if there is no unpinned resident page.";
        doc.holds(none, "victim() -> -9, pin(1) -> 1, victim() -> -9, read(2) -> 0, victim() -> 2, discard(2) -> 1,",
            "victim() -> -9, unpin(1) -> 0, victim() -> 1, discard(1) -> 1, victim() -> -9");
        doc.holds(none, ALL_PINNED, "victim() -> -9, pin(2) -> 2, unpin(2) -> 1, victim() -> -9, unpin(2) -> 0, victim() -> 2,",
            "queueSize() -> 2");
        doc.holds(none, "reset(16, 1, 1, 9) -> 0,", Runs.repeat(16, 0, "pin(#) -> 1,"), "victim() -> -9, unpin(15) -> 0,",
            "victim() -> 15, unpin(0) -> 0, victim() -> 0");
    }

    private static void diskValue(Sentences doc) {
        doc.section("Promise 17: diskValue");
        String older = "Returns the value of a page on disk, which may be older than the value in the cache or in the queue.";
        doc.holds(older, "write(1, 11) -> 0, diskValue(1) -> 0, flush(1) -> 1, diskValue(1) -> 11, write(1, 12) -> 11,",
            "diskValue(1) -> 11, read(1) -> 12");
        doc.holds(older, ONE_QUEUED, "queuedValue(0) -> 11, diskValue(1) -> 0, drain(1) -> 1, diskValue(1) -> 11");
        doc.holds("This does not count as a disk read.", "diskValue(1) -> 0, diskReads() -> 0, read(1) -> 0, diskReads() -> 1,",
            "diskValue(1) -> 0, diskValue(2) -> 0, diskReads() -> 1, isResident(2) -> 0, clock() -> 1");
        doc.holds(PAGE, "write(0, 5) -> 0, write(63, 6) -> 0, flushAll() -> 2, diskValue(0) -> 5, diskValue(63) -> 6");
        String returns = "Returns the value on disk, or NO_SUCH_PAGE if the page number is out of range.";
        doc.holds(returns, "write(1, 9999) -> 0, flush(1) -> 1, diskValue(1) -> 9999, write(1, 0) -> 9999, flush(1) -> 1,",
            "diskValue(1) -> 0");
        doc.holds(returns, noSuchPage("diskValue"), ALL_PINNED, noSuchPage("diskValue"), "diskReads() -> 4");
    }

    private static void residentCount(Sentences doc) {
        doc.section("Promise 18: residentCount");
        String count = "Returns the number of resident pages, 0 to the capacity.";
        for (int capacity = 1; capacity <= 16; capacity++) {
            doc.holds(count, "reset(" + capacity + ", 1, 1, 9) -> 0, residentCount() -> 0,",
                Runs.each(capacity, 1, i -> "read(" + i + ") -> 0, residentCount() -> " + i + ","), "read(50) -> 0,",
                "residentCount() -> " + capacity + ", read(50) -> 0, residentCount() -> " + capacity + ", discard(50) -> 1,",
                "residentCount() -> " + (capacity - 1));
        }
        doc.holds("Returns the number of resident pages.", ONE_QUEUED, "residentCount() -> 1, queueSize() -> 1");
    }

    private static void residentPage(Sentences doc) {
        doc.section("Promise 19: residentPage");
        String ascending = "Returns the page number of a resident page by its position among all resident pages in ascending order"
            + " of page numbers.";
        doc.holds(ascending, "reset(16, 1, 1, 9) -> 0,", Runs.each(16, 0, i -> "read(" + (63 - 3 * i) + ") -> 0,"),
            Runs.each(16, 0, i -> "residentPage(" + i + ") -> " + (18 + 3 * i) + ","), "read(0) -> 0, residentPage(0) -> 0,",
            "residentPage(1) -> 18, residentPage(15) -> 60");
        doc.holds(ascending, ONE_QUEUED, "residentPage(0) -> 2, residentPage(1) -> -9");
        doc.holds("`position`: the position, 0 for the lowest page number", "read(63) -> 0, residentPage(0) -> 63, read(0) -> 0,",
            "residentPage(0) -> 0, residentPage(1) -> 63, discard(0) -> 1, residentPage(0) -> 63");
        String none = "Returns the page number, or NONE if the position is negative or not less than the number of resident pages.";
        doc.holds(none, "residentPage(0) -> -9, residentPage(-1) -> -9, read(1) -> 0, residentPage(0) -> 1, residentPage(1) -> -9,",
            "read(2) -> 0, residentPage(1) -> 2, residentPage(2) -> -9, residentPage(3) -> -9, discard(1) -> 1,",
            "residentPage(0) -> 2, residentPage(1) -> -9");
        doc.holds(none, "reset(16, 1, 1, 9) -> 0,", Runs.repeat(16, 0, "read(#) -> 0,"), "residentPage(15) -> 15,",
            "residentPage(16) -> -9, residentPage(17) -> -9,", outOfRange("residentPage(", ")", -9));
    }

    private static void queueSize(Sentences doc) {
        doc.section("Promise 20: queueSize");
        doc.holds("Returns the number of entries in the write-back queue.", ONE_QUEUED, "queueSize() -> 1, flush(1) -> 1,",
            "queueSize() -> 0, write(2, 22) -> 0, write(3, 33) -> 0, queueSize() -> 1, discard(2) -> 1, queueSize() -> 0,",
            "write(4, 44) -> 0, queueSize() -> 1, read(3) -> 33, queueSize() -> 1");
        for (int capacity = 1; capacity <= 8; capacity++) {
            int last = capacity + 1;
            doc.holds("Returns the number of entries.", "reset(1, 1, " + capacity + ", 9) -> 0, queueSize() -> 0,",
                Runs.each(last, 1, i -> "write(" + i + ", 5) -> 0, queueSize() -> " + (i - 1) + ","), "stalls() -> 0,",
                "write(50, 5) -> 0, queueSize() -> " + capacity + ", stalls() -> 1, drain(8) -> " + capacity + ",",
                "queueSize() -> 0");
        }
    }

    private static void queuedPage(Sentences doc) {
        doc.section("Promise 21: queuedPage");
        doc.holds("Returns the page number of an entry of the write-back queue.", "reset(1, 1, 3, 9) -> 0, write(63, 1) -> 0,",
            "write(0, 2) -> 0, write(5, 3) -> 0, read(6) -> 0, queuedPage(0) -> 63, queuedPage(1) -> 0, queuedPage(2) -> 5");
        doc.holds("`position`: the position, 0 for the oldest entry", "reset(1, 1, 2, 9) -> 0, write(9, 1) -> 0, write(8, 2) -> 0,",
            "queuedPage(0) -> 9, write(7, 3) -> 0, queuedPage(0) -> 9, queuedPage(1) -> 8, write(6, 4) -> 0, queuedPage(0) -> 8,",
            "queuedPage(1) -> 7");
        String none = "Returns the page number, or NONE if the position is negative or not less than the number of entries.";
        doc.holds(none, "queuedPage(0) -> -9, queuedPage(-1) -> -9,", ONE_QUEUED, "queuedPage(0) -> 1, queuedPage(1) -> -9,",
            "drain(1) -> 1, queuedPage(0) -> -9");
        doc.holds(none, "reset(1, 1, 8, 9) -> 0,", Runs.repeat(9, 1, "write(#, 5) -> 0,"), "queuedPage(7) -> 8,",
            "queuedPage(8) -> -9, queuedPage(9) -> -9,", outOfRange("queuedPage(", ")", -9), "drain(1) -> 1, queuedPage(6) -> 8,",
            "queuedPage(7) -> -9");
    }

    private static void queuedValue(Sentences doc) {
        doc.section("Promise 22: queuedValue");
        doc.holds("Returns the value of an entry of the write-back queue.", "reset(1, 1, 3, 9) -> 0, write(63, 9999) -> 0,",
            "write(0, 0) -> 0, write(5, 3) -> 0, read(6) -> 0, queuedValue(0) -> 9999, queuedValue(1) -> 0, queuedValue(2) -> 3");
        doc.holds("`position`: the position, 0 for the oldest entry", "reset(1, 1, 2, 9) -> 0, write(9, 1) -> 0, write(8, 2) -> 0,",
            "queuedValue(0) -> 1, write(7, 3) -> 0, queuedValue(0) -> 1, queuedValue(1) -> 2, write(6, 4) -> 0,",
            "queuedValue(0) -> 2, queuedValue(1) -> 3");
        String none = "Returns the value, or NONE if the position is negative or not less than the number of entries.";
        doc.holds(none, "queuedValue(0) -> -9, queuedValue(-1) -> -9,", ONE_QUEUED, "queuedValue(0) -> 11, queuedValue(1) -> -9,",
            "drain(1) -> 1, queuedValue(0) -> -9");
        doc.holds(none, "reset(1, 1, 8, 9) -> 0,", Runs.repeat(9, 1, "write(#, 5#) -> 0,"), "queuedValue(7) -> 58,",
            "queuedValue(8) -> -9, queuedValue(9) -> -9,", outOfRange("queuedValue(", ")", -9), "drain(1) -> 1,",
            "queuedValue(6) -> 58, queuedValue(7) -> -9");
    }

    private static void clock(Sentences doc) {
        doc.section("Promise 23: clock");
        doc.holds("Returns the logical clock.", "clock() -> 0, read(1) -> 0, clock() -> 1, clock() -> 1, unpin(1) -> -5,",
            "clock() -> 1");
        String number = "Returns the number of references since the cache was created or last reset.";
        doc.holds(number, Runs.repeat(511, 0, "read(1) -> 0,"), "clock() -> 511");
        doc.holds(number, "read(1) -> 0, reset(1, 1, 1, 0) -> 0, clock() -> 0, pin(1) -> 1, write(1, 5) -> 0, read(2) -> -3,",
            "read(64) -> -1, clock() -> 2, reset(1, 1, 9, 0) -> -8, clock() -> 2");
    }

    private static void hitsAndMisses(Sentences doc) {
        doc.section("Promise 24: hits");
        doc.holds("Returns the number of hits.", "hits() -> 0, read(1) -> 0, hits() -> 0, read(1) -> 0, hits() -> 1, pin(1) -> 1,",
            "write(1, 5) -> 0, hits() -> 3");
        doc.holds("Returns the number of hits since the cache was created or last reset.", "read(1) -> 0, read(1) -> 0,",
            "reset(1, 1, 1, 0) -> 0, hits() -> 0,", Runs.repeat(9, 1, "pin(1) -> #,"), "hits() -> 8, pin(1) -> -6, read(2) -> -3,",
            "read(-1) -> -1, write(1, -1) -> -2, hits() -> 8, reset(0, 1, 1, 0) -> -8, hits() -> 8");
        doc.section("Promise 25: misses");
        doc.holds("Returns the number of misses.", "misses() -> 0, read(1) -> 0, misses() -> 1, read(1) -> 0, misses() -> 1,",
            "pin(2) -> 1, write(3, 5) -> 0, misses() -> 3");
        doc.holds("Returns the number of misses since the cache was created or last reset.", "read(1) -> 0,",
            "reset(1, 1, 1, 0) -> 0, misses() -> 0, pin(1) -> 1, misses() -> 1, read(2) -> -3, write(2, 5) -> -3, pin(2) -> -3,",
            "read(64) -> -1, write(2, 10000) -> -2, misses() -> 1, reset(0, 1, 1, 0) -> -8, misses() -> 1");
    }

    private static void evictions(Sentences doc) {
        doc.section("Promise 26: evictions");
        doc.holds("Returns the number of evictions.", "reset(1, 1, 1, 9) -> 0, read(1) -> 0, evictions() -> 0, read(2) -> 0,",
            "evictions() -> 1, write(3, 5) -> 0, evictions() -> 2, pin(4) -> 1, evictions() -> 3, read(5) -> -3, evictions() -> 3,",
            "unpin(4) -> 0, discard(4) -> 1, discard(3) -> 1, evictions() -> 3, read(5) -> 0, evictions() -> 3");
        doc.holds("Returns the number of evictions since the cache was created or last reset.", "reset(1, 1, 1, 9) -> 0,",
            "read(1) -> 0, read(2) -> 0, evictions() -> 1, reset(17, 1, 1, 9) -> -8, evictions() -> 1, reset(1, 1, 1, 9) -> 0,",
            "evictions() -> 0, read(2) -> 0, evictions() -> 0");
    }

    private static void diskReadsAndWrites(Sentences doc) {
        doc.section("Promise 27: diskReads");
        doc.holds("Returns the number of disk reads.", "diskReads() -> 0, read(1) -> 0, diskReads() -> 1, read(1) -> 0,",
            "write(2, 5) -> 0, pin(3) -> 1, diskReads() -> 3,", ONE_QUEUED, "diskReads() -> 2, read(1) -> 11, diskReads() -> 2");
        doc.holds("Returns the number of disk reads since the cache was created or last reset.", "read(1) -> 0,",
            "reset(1, 1, 1, 9) -> 0, diskReads() -> 0, pin(1) -> 1, read(2) -> -3, diskReads() -> 1, reset(1, 4, 1, 9) -> -8,",
            "diskReads() -> 1");
        doc.section("Promise 28: diskWrites");
        doc.holds("Returns the number of disk writes.", "diskWrites() -> 0, write(1, 5) -> 0, diskWrites() -> 0, flush(1) -> 1,",
            "diskWrites() -> 1, flush(1) -> 0, drain(8) -> 0, flushAll() -> 0, diskWrites() -> 1,", ONE_QUEUED,
            "diskWrites() -> 0, drain(0) -> 0, drain(9) -> -8, flush(64) -> -1, diskWrites() -> 0, drain(8) -> 1,",
            "diskWrites() -> 1");
        doc.holds("Returns the number of disk writes since the cache was created or last reset.", "write(1, 5) -> 0,",
            "flush(1) -> 1, reset(1, 1, 1, -1) -> -8, diskWrites() -> 1, reset(1, 1, 1, 9) -> 0, diskWrites() -> 0");
    }

    private static void stalls(Sentences doc) {
        doc.section("Promise 29: stalls");
        doc.holds("Returns the number of stalls.", "reset(1, 1, 1, 9) -> 0, stalls() -> 0, write(1, 11) -> 0, write(2, 22) -> 0,",
            "stalls() -> 0, write(3, 33) -> 0, stalls() -> 1, read(2) -> 22, stalls() -> 2, drain(1) -> 1, flushAll() -> 0,",
            "read(4) -> 0, stalls() -> 2, write(4, 44) -> 0, pin(5) -> 1, stalls() -> 2, read(6) -> -3, stalls() -> 2");
        doc.holds("Returns the number of stalls since the cache was created or last reset.", "reset(1, 1, 1, 9) -> 0,",
            Runs.repeat(3, 1, "write(#, 5) -> 0,"), "stalls() -> 1, reset(1, 1, 0, 9) -> -8, stalls() -> 1, reset(1, 1, 1, 9) -> 0,",
            "stalls() -> 0, write(1, 5) -> 0, write(2, 5) -> 0, stalls() -> 0");
    }
}
