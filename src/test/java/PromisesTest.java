/** Each promise of the document by itself: ordinary inputs, the edges that the document names, wrong inputs. */
public final class PromisesTest {
    private static final String LEAST = Integer.toString(Integer.MIN_VALUE);
    private static final String MOST = Integer.toString(Integer.MAX_VALUE);

    public static void main(String[] args) {
        Runs runs = new Runs();
        newObject(runs);
        resetClears(runs);
        resetRefuses(runs);
        resetParameters(runs);
        read(runs);
        write(runs);
        pin(runs);
        unpin(runs);
        flush(runs);
        flushAll(runs);
        drain(runs);
        discard(runs);
        isResident(runs);
        isDirty(runs);
        pinCount(runs);
        referenceTime(runs);
        retention(runs);
        backwardKDistance(runs);
        victim(runs);
        diskValue(runs);
        residents(runs);
        queue(runs);
        counters(runs);
        orderOfAMiss(runs);
        refusalsChangeNothing(runs);
        runs.end();
    }

    private static void newObject(Runs runs) {
        runs.run("1: empty", "clock() -> 0, hits() -> 0, misses() -> 0, evictions() -> 0, diskReads() -> 0,",
            "diskWrites() -> 0, stalls() -> 0, residentCount() -> 0, queueSize() -> 0, victim() -> -9,",
            "residentPage(0) -> -9, queuedPage(0) -> -9, queuedValue(0) -> -9,",
            Runs.repeat(64, 0, "diskValue(#) -> 0, isResident(#) -> 0, referenceTime(#, 1) -> -9,"));
        runs.run("1: capacity 4", Runs.repeat(4, 0, "read(#) -> 0,"),
            "residentCount() -> 4, evictions() -> 0, read(4) -> 0, residentCount() -> 4, evictions() -> 1");
        runs.run("1: K is 2", "read(0) -> 0, referenceTime(0, 2) -> -9, referenceTime(0, 3) -> -8,",
            "backwardKDistance(0) -> -9, read(0) -> 0, backwardKDistance(0) -> 1");
        runs.run("1: queue capacity 3", Runs.repeat(7, 0, "write(#, 5) -> 0,"),
            "queueSize() -> 3, stalls() -> 0, write(7, 5) -> 0, queueSize() -> 3, stalls() -> 1");
        runs.run("1: retention 100 keeps at 100", Runs.repeat(5, 0, "read(#) -> 0,"),
            Runs.repeat(95, 0, "read(4) -> 0,"), "read(0) -> 0, clock() -> 101, referenceTime(0, 2) -> 1");
        runs.run("1: retention 100 forgets at 101", Runs.repeat(5, 0, "read(#) -> 0,"),
            Runs.repeat(96, 0, "read(4) -> 0,"), "read(0) -> 0, clock() -> 102, referenceTime(0, 2) -> -9");
    }

    private static void resetClears(Runs runs) {
        runs.run("2: clears all", "reset(1, 2, 1, 9) -> 0, write(1, 11) -> 0, write(2, 22) -> 0, write(3, 33) -> 0,",
            "read(3) -> 33, pin(3) -> 1, diskValue(1) -> 11, stalls() -> 1, reset(1, 2, 1, 9) -> 0,",
            "clock() -> 0, hits() -> 0, misses() -> 0, evictions() -> 0, diskReads() -> 0, diskWrites() -> 0,",
            "stalls() -> 0, residentCount() -> 0, residentPage(0) -> -9, queueSize() -> 0, queuedPage(0) -> -9,",
            "queuedValue(0) -> -9, victim() -> -9, diskValue(1) -> 0, diskValue(2) -> 0, diskValue(3) -> 0,",
            "isResident(3) -> 0, isDirty(3) -> -4, pinCount(3) -> -4, unpin(3) -> -4,",
            "referenceTime(1, 1) -> -9, referenceTime(2, 1) -> -9, referenceTime(3, 1) -> -9,",
            "backwardKDistance(3) -> -9, flush(3) -> 0, flush(2) -> 0, discard(2) -> 0,",
            "read(3) -> 0, isDirty(3) -> 0, pinCount(3) -> 0, read(2) -> 0, read(1) -> 0, queueSize() -> 0");
        runs.run("2: clears the first and the last page", "write(0, 5) -> 0, pin(0) -> 1, write(63, 6) -> 0, pin(63) -> 1,",
            "flushAll() -> 2, write(0, 7) -> 5, reset(4, 2, 3, 100) -> 0, isResident(0) -> 0, isResident(63) -> 0,",
            "diskValue(0) -> 0, diskValue(63) -> 0, flushAll() -> 0, discard(0) -> 0, discard(63) -> 0,",
            "read(0) -> 0, isDirty(0) -> 0, pinCount(0) -> 0, referenceTime(0, 2) -> -9, read(63) -> 0,",
            "pinCount(63) -> 0, referenceTime(63, 2) -> -9");
    }

    private static void resetRefuses(Runs runs) {
        runs.run("2: every bound", "reset(1, 1, 1, 0) -> 0, reset(16, 3, 8, 9999) -> 0,",
            "reset(0, 1, 1, 0) -> -8, reset(17, 1, 1, 0) -> -8, reset(1, 0, 1, 0) -> -8, reset(1, 4, 1, 0) -> -8,",
            "reset(1, 1, 0, 0) -> -8, reset(1, 1, 9, 0) -> -8, reset(1, 1, 1, -1) -> -8, reset(1, 1, 1, 10000) -> -8,",
            "reset(-1, 1, 1, 0) -> -8, reset(1, -1, 1, 0) -> -8, reset(1, 1, -1, 0) -> -8,",
            "reset(" + LEAST + ", 1, 1, 0) -> -8, reset(" + MOST + ", 1, 1, 0) -> -8,",
            "reset(1, " + LEAST + ", 1, 0) -> -8, reset(1, " + MOST + ", 1, 0) -> -8,",
            "reset(1, 1, " + LEAST + ", 0) -> -8, reset(1, 1, " + MOST + ", 0) -> -8,",
            "reset(1, 1, 1, " + LEAST + ") -> -8, reset(1, 1, 1, " + MOST + ") -> -8");
        runs.run("2: a refused reset changes nothing", "reset(2, 3, 2, 5) -> 0, write(1, 11) -> 0, pin(2) -> 1,",
            "write(3, 33) -> 0, reset(1, 1, 1, 10000) -> -8, reset(1, 1, 9, 1) -> -8, reset(1, 4, 1, 1) -> -8,",
            "reset(17, 1, 1, 1) -> -8, clock() -> 3, misses() -> 3, residentCount() -> 2, pinCount(2) -> 1,",
            "queueSize() -> 1, queuedValue(0) -> 11, referenceTime(1, 1) -> 1, referenceTime(1, 3) -> -9,",
            "referenceTime(1, 4) -> -8, unpin(2) -> 0, write(4, 44) -> 0, residentCount() -> 2, evictions() -> 2,",
            "write(5, 55) -> 0, queueSize() -> 2, stalls() -> 0");
    }

    private static void resetParameters(Runs runs) {
        runs.run("2: capacity 16", "reset(16, 1, 1, 0) -> 0,", Runs.repeat(16, 10, "read(#) -> 0,"),
            "evictions() -> 0, residentCount() -> 16, read(9) -> 0, evictions() -> 1, residentCount() -> 16,",
            "isResident(10) -> 0");
        runs.run("2: queue capacity 8", "reset(1, 1, 8, 0) -> 0,", Runs.repeat(9, 0, "write(#, 10#) -> 0,"),
            "queueSize() -> 8, stalls() -> 0,", Runs.repeat(8, 0, "queuedPage(#) -> #, queuedValue(#) -> 10#,"),
            "write(9, 109) -> 0, queueSize() -> 8, stalls() -> 1, diskValue(0) -> 100, queuedPage(0) -> 1,",
            "queuedPage(7) -> 8, queuedPage(8) -> -9");
        runs.run("2: K 3", "reset(1, 3, 1, 0) -> 0,", Runs.repeat(4, 0, "read(7) -> 0,"),
            "referenceTime(7, 1) -> 4, referenceTime(7, 2) -> 3, referenceTime(7, 3) -> 2, referenceTime(7, 4) -> -8");
        runs.run("2: K 1", "reset(1, 1, 1, 0) -> 0, read(7) -> 0, read(7) -> 0, referenceTime(7, 1) -> 2,",
            "referenceTime(7, 2) -> -8, backwardKDistance(7) -> 0");
        runs.run("2: a smaller K after a larger one", "reset(2, 3, 1, 0) -> 0,", Runs.repeat(3, 0, "read(7) -> 0,"),
            "reset(2, 2, 1, 0) -> 0, read(7) -> 0, referenceTime(7, 2) -> -9, referenceTime(7, 3) -> -8");
    }

    private static void read(Runs runs) {
        runs.run("3: values and references", "read(0) -> 0, read(63) -> 0, write(63, 9999) -> 0, read(63) -> 9999,",
            "clock() -> 4, hits() -> 2, misses() -> 2, referenceTime(63, 1) -> 4, referenceTime(63, 2) -> 3,",
            "isDirty(0) -> 0, pinCount(0) -> 0");
        runs.run("3: wrong pages", "read(-1) -> -1, read(64) -> -1, read(" + LEAST + ") -> -1, read(" + MOST + ") -> -1,",
            "clock() -> 0, misses() -> 0, residentCount() -> 0");
        runs.run("3: all pinned", "reset(2, 2, 1, 5) -> 0, pin(1) -> 1, pin(2) -> 1, read(3) -> -3, read(1) -> 0,",
            "read(-1) -> -1, read(64) -> -1, clock() -> 3, misses() -> 2, hits() -> 1, evictions() -> 0");
        runs.run("3: from disk and from the queue", "reset(1, 1, 2, 5) -> 0, write(1, 11) -> 0, write(2, 22) -> 0,",
            "read(1) -> 11, isDirty(1) -> 1, queueSize() -> 1, queuedPage(0) -> 2, flush(2) -> 1, read(2) -> 22,",
            "isDirty(2) -> 0, diskReads() -> 3, diskValue(1) -> 0, read(1) -> 11, diskReads() -> 3");
    }

    private static void write(Runs runs) {
        runs.run("4: previous values", "write(5, 50) -> 0, write(5, 51) -> 50, write(5, 0) -> 51, write(5, 9999) -> 0,",
            "read(5) -> 9999, clock() -> 5, hits() -> 4, misses() -> 1, diskReads() -> 1, diskWrites() -> 0,",
            "referenceTime(5, 1) -> 5, referenceTime(5, 2) -> 4");
        runs.run("4: dirty though the value stays", "read(5) -> 0, isDirty(5) -> 0, write(5, 0) -> 0, isDirty(5) -> 1,",
            "flush(5) -> 1, isDirty(5) -> 0, write(5, 0) -> 0, isDirty(5) -> 1");
        runs.run("4: wrong arguments in their order", "write(-1, 0) -> -1, write(64, 0) -> -1, write(64, 10000) -> -1,",
            "write(-1, -1) -> -1, write(0, -1) -> -2, write(0, 10000) -> -2, write(63, " + LEAST + ") -> -2,",
            "write(63, " + MOST + ") -> -2, write(" + MOST + ", 1) -> -1, write(" + LEAST + ", 1) -> -1, clock() -> 0,",
            "residentCount() -> 0");
        runs.run("4: all pinned comes last", "reset(1, 1, 1, 5) -> 0, pin(1) -> 1, write(2, 5) -> -3, write(2, 10000) -> -2,",
            "write(64, 5) -> -1, write(1, 5) -> 0, clock() -> 2, misses() -> 1, isDirty(1) -> 1, pinCount(1) -> 1");
        runs.run("4: a miss loads first", "reset(1, 1, 2, 5) -> 0, write(1, 11) -> 0, write(2, 22) -> 0,",
            "write(1, 12) -> 11, diskReads() -> 2, misses() -> 3, queueSize() -> 1, queuedPage(0) -> 2, flush(1) -> 1,",
            "diskValue(1) -> 12, flush(2) -> 1, write(2, 23) -> 22, diskReads() -> 3, diskValue(2) -> 22");
    }

    private static void pin(Runs runs) {
        runs.run("5: counts to 9", Runs.repeat(9, 1, "pin(6) -> #,"), "pin(6) -> -6, pinCount(6) -> 9, clock() -> 9,",
            "hits() -> 8, misses() -> 1, referenceTime(6, 1) -> 9, referenceTime(6, 2) -> 8, isDirty(6) -> 0,",
            "unpin(6) -> 8, pin(6) -> 9, clock() -> 10");
        runs.run("5: wrong pages", "pin(-1) -> -1, pin(64) -> -1, pin(" + LEAST + ") -> -1, pin(" + MOST + ") -> -1,",
            "clock() -> 0, residentCount() -> 0");
        runs.run("5: all pinned", "reset(1, 1, 1, 5) -> 0, pin(1) -> 1, pin(2) -> -3, pin(1) -> 2, clock() -> 2,",
            "misses() -> 1, isResident(2) -> 0, pinCount(1) -> 2");
        runs.run("5: a pinned page is not evicted", "reset(2, 1, 1, 5) -> 0, pin(1) -> 1, read(2) -> 0, read(3) -> 0,",
            "read(4) -> 0, isResident(1) -> 1, isResident(2) -> 0, isResident(3) -> 0, isResident(4) -> 1");
        runs.run("5: a load starts at 0 pins", "reset(1, 1, 1, 5) -> 0, pin(1) -> 1, pin(1) -> 2, unpin(1) -> 1,",
            "unpin(1) -> 0, pin(2) -> 1, unpin(2) -> 0, pin(1) -> 1");
    }

    private static void unpin(Runs runs) {
        runs.run("6: down to 0", Runs.repeat(9, 1, "pin(6) -> #,"), "unpin(6) -> 8,",
            "unpin(6) -> 7, unpin(6) -> 6, unpin(6) -> 5, unpin(6) -> 4, unpin(6) -> 3, unpin(6) -> 2, unpin(6) -> 1,",
            "unpin(6) -> 0, unpin(6) -> -5, pinCount(6) -> 0, clock() -> 9, hits() -> 8, referenceTime(6, 1) -> 9");
        runs.run("6: refusals", "unpin(-1) -> -1, unpin(64) -> -1, unpin(" + LEAST + ") -> -1, unpin(" + MOST + ") -> -1,",
            "unpin(0) -> -4, read(0) -> 0, unpin(0) -> -5, clock() -> 1");
        runs.run("6: in the queue is not resident", "reset(1, 1, 1, 5) -> 0, write(1, 11) -> 0, read(2) -> 0,",
            "queuedPage(0) -> 1, unpin(1) -> -4");
        runs.run("6: frees the page for eviction", "reset(1, 1, 1, 5) -> 0, pin(1) -> 1, pin(1) -> 2, unpin(1) -> 1,",
            "read(2) -> -3, victim() -> -9, unpin(1) -> 0, victim() -> 1, read(2) -> 0, isResident(1) -> 0");
    }

    private static void flush(Runs runs) {
        runs.run("7: a dirty page", "write(1, 11) -> 0, pin(1) -> 1, flush(1) -> 1, diskValue(1) -> 11, isDirty(1) -> 0,",
            "isResident(1) -> 1, pinCount(1) -> 1, diskWrites() -> 1, flush(1) -> 0, diskWrites() -> 1, clock() -> 2,",
            "hits() -> 1, referenceTime(1, 1) -> 2, read(1) -> 11");
        runs.run("7: a queued page", "reset(1, 1, 3, 5) -> 0, write(1, 11) -> 0, write(2, 22) -> 0, write(3, 33) -> 0,",
            "read(4) -> 0, queueSize() -> 3, flush(2) -> 1, diskValue(2) -> 22, diskValue(1) -> 0, queueSize() -> 2,",
            "queuedPage(0) -> 1, queuedValue(0) -> 11, queuedPage(1) -> 3, queuedValue(1) -> 33, isResident(2) -> 0,",
            "diskWrites() -> 1, flush(2) -> 0, diskWrites() -> 1, clock() -> 4, stalls() -> 0, diskReads() -> 4,",
            "referenceTime(2, 1) -> 2");
        runs.run("7: nothing to write", "flush(0) -> 0, flush(63) -> 0, read(0) -> 0, flush(0) -> 0, diskWrites() -> 0,",
            "flush(-1) -> -1, flush(64) -> -1, flush(" + LEAST + ") -> -1, flush(" + MOST + ") -> -1");
        runs.run("7: a flushed page is evicted without an entry", "reset(1, 1, 3, 5) -> 0, write(1, 11) -> 0,",
            "flush(1) -> 1, read(2) -> 0, evictions() -> 1, queueSize() -> 0, read(1) -> 11, isDirty(1) -> 0");
    }

    private static void flushAll(Runs runs) {
        runs.run("8: queue and frames", "reset(2, 1, 3, 5) -> 0, write(1, 11) -> 0, write(2, 22) -> 0, write(3, 33) -> 0,",
            "write(4, 44) -> 0, pin(4) -> 1, queueSize() -> 2, flushAll() -> 4, queueSize() -> 0, queuedPage(0) -> -9,",
            "isDirty(3) -> 0, isDirty(4) -> 0, pinCount(4) -> 1, residentCount() -> 2,",
            Runs.repeat(4, 1, "diskValue(#) -> ##,"), "diskWrites() -> 4, stalls() -> 0, clock() -> 5, evictions() -> 2,",
            "flushAll() -> 0, diskWrites() -> 4");
        runs.run("8: clean pages are left", "read(0) -> 0, write(63, 7) -> 0, read(2) -> 0, flushAll() -> 1,",
            "diskWrites() -> 1, diskValue(63) -> 7, residentCount() -> 3, referenceTime(63, 1) -> 2");
        runs.run("8: nothing to write", "flushAll() -> 0, read(0) -> 0, flushAll() -> 0, diskWrites() -> 0");
        runs.run("8: page 0", "write(0, 7) -> 0, flushAll() -> 1, diskValue(0) -> 7, isDirty(0) -> 0");
        runs.run("8: a full house", "reset(16, 2, 8, 5) -> 0,", Runs.repeat(24, 20, "write(#, 5) -> 0,"),
            "flushAll() -> 24, diskWrites() -> 24");
    }

    private static void drain(Runs runs) {
        runs.run("9: the oldest first", "reset(1, 1, 8, 5) -> 0,", Runs.repeat(6, 1, "write(#, ##) -> 0,"),
            "queueSize() -> 5, drain(0) -> 0, queueSize() -> 5, drain(2) -> 2, queueSize() -> 3, diskValue(1) -> 11,",
            "diskValue(2) -> 22, diskValue(3) -> 0, queuedPage(0) -> 3, queuedValue(0) -> 33, diskWrites() -> 2,",
            "drain(1) -> 1, diskValue(3) -> 33, drain(8) -> 2, queueSize() -> 0, diskWrites() -> 5, drain(8) -> 0,",
            "diskWrites() -> 5, isDirty(6) -> 1, diskValue(6) -> 0, stalls() -> 0, clock() -> 6");
        runs.run("9: eight entries", "reset(1, 1, 8, 5) -> 0,", Runs.repeat(9, 1, "write(#, ##) -> 0,"),
            "drain(8) -> 8, queueSize() -> 0,", Runs.repeat(8, 1, "diskValue(#) -> ##,"), "diskValue(9) -> 0");
        runs.run("9: wrong counts", "reset(1, 1, 2, 5) -> 0, write(1, 11) -> 0, read(2) -> 0, drain(-1) -> -8,",
            "drain(9) -> -8, drain(" + LEAST + ") -> -8, drain(" + MOST + ") -> -8, queueSize() -> 1, diskWrites() -> 0,",
            "drain(3) -> 1");
    }

    private static void discard(Runs runs) {
        runs.run("10: a resident page", "write(1, 11) -> 0, read(1) -> 11, discard(1) -> 1, isResident(1) -> 0,",
            "residentCount() -> 0, diskValue(1) -> 0, diskWrites() -> 0, evictions() -> 0, clock() -> 2, hits() -> 1,",
            "referenceTime(1, 1) -> -9, referenceTime(1, 2) -> -9, queueSize() -> 0, discard(1) -> 0, read(1) -> 0,",
            "isDirty(1) -> 0, referenceTime(1, 1) -> 3, referenceTime(1, 2) -> -9");
        runs.run("10: a queued page", "reset(1, 2, 3, 50) -> 0, write(1, 11) -> 0, write(2, 22) -> 0, write(3, 33) -> 0,",
            "read(4) -> 0, discard(2) -> 1, queueSize() -> 2, queuedPage(0) -> 1, queuedPage(1) -> 3,",
            "queuedValue(1) -> 33, diskValue(2) -> 0, diskWrites() -> 0, referenceTime(2, 1) -> -9,",
            "referenceTime(1, 1) -> 1, clock() -> 4, evictions() -> 3, read(2) -> 0, isDirty(2) -> 0,",
            "referenceTime(2, 2) -> -9");
        runs.run("10: only a history", "reset(1, 2, 1, 50) -> 0, read(1) -> 0, read(2) -> 0, referenceTime(1, 1) -> 1,",
            "discard(1) -> 0, referenceTime(1, 1) -> -9, residentCount() -> 1, discard(1) -> 0, discard(63) -> 0");
        runs.run("10: refusals", "discard(-1) -> -1, discard(64) -> -1, discard(" + LEAST + ") -> -1,",
            "discard(" + MOST + ") -> -1, pin(1) -> 1, write(1, 5) -> 0, discard(1) -> -7, isResident(1) -> 1,",
            "referenceTime(1, 2) -> 1, read(1) -> 5, unpin(1) -> 0, discard(1) -> 1");
        runs.run("10: frees a frame", "reset(2, 1, 1, 5) -> 0, read(1) -> 0, pin(2) -> 1, discard(1) -> 1, read(3) -> 0,",
            "evictions() -> 0, residentCount() -> 2, residentPage(0) -> 2, residentPage(1) -> 3");
    }

    private static void isResident(Runs runs) {
        runs.run("11", "isResident(0) -> 0, read(0) -> 0, isResident(0) -> 1, isResident(63) -> 0, pin(63) -> 1,",
            "isResident(63) -> 1, isResident(-1) -> -1, isResident(64) -> -1, isResident(" + LEAST + ") -> -1,",
            "isResident(" + MOST + ") -> -1, clock() -> 2");
        runs.run("11: queued is not resident", "reset(1, 1, 1, 5) -> 0, write(1, 11) -> 0, read(2) -> 0,",
            "queuedPage(0) -> 1, isResident(1) -> 0, isResident(2) -> 1");
    }

    private static void isDirty(Runs runs) {
        runs.run("12", "isDirty(0) -> -4, read(0) -> 0, isDirty(0) -> 0, write(0, 1) -> 0, isDirty(0) -> 1, read(0) -> 1,",
            "isDirty(0) -> 1, pin(0) -> 1, isDirty(0) -> 1, isDirty(63) -> -4, isDirty(-1) -> -1, isDirty(64) -> -1,",
            "isDirty(" + LEAST + ") -> -1, isDirty(" + MOST + ") -> -1");
        runs.run("12: queued, and loaded from there", "reset(1, 1, 1, 5) -> 0, write(1, 11) -> 0, read(2) -> 0,",
            "isDirty(1) -> -4, read(1) -> 11, isDirty(1) -> 1, isDirty(2) -> -4");
        runs.run("12: pin loads from the queue", "reset(1, 1, 1, 5) -> 0, write(1, 11) -> 0, read(2) -> 0, pin(1) -> 1,",
            "isDirty(1) -> 1, queueSize() -> 0, read(1) -> 11");
    }

    private static void pinCount(Runs runs) {
        runs.run("13", "pinCount(0) -> -4, read(0) -> 0, pinCount(0) -> 0, pin(0) -> 1, pinCount(0) -> 1, pin(0) -> 2,",
            "pinCount(0) -> 2, unpin(0) -> 1, pinCount(0) -> 1, pinCount(63) -> -4, pin(63) -> 1, pinCount(63) -> 1,",
            "pinCount(-1) -> -1, pinCount(64) -> -1, pinCount(" + LEAST + ") -> -1, pinCount(" + MOST + ") -> -1");
        runs.run("13: queued", "reset(1, 1, 1, 5) -> 0, write(1, 11) -> 0, read(2) -> 0, pinCount(1) -> -4");
    }

    private static void referenceTime(Runs runs) {
        runs.run("14: arguments in their order", "referenceTime(64, 0) -> -1, referenceTime(-1, 3) -> -1,",
            "referenceTime(0, 0) -> -8, referenceTime(0, 3) -> -8, referenceTime(0, -1) -> -8, referenceTime(0, 1) -> -9,",
            "referenceTime(63, 2) -> -9, referenceTime(0, " + LEAST + ") -> -8, referenceTime(0, " + MOST + ") -> -8,",
            "referenceTime(" + LEAST + ", 1) -> -1, referenceTime(" + MOST + ", 1) -> -1");
        runs.run("14: last K of read, write and pin", "reset(4, 3, 1, 5) -> 0, read(9) -> 0, write(9, 1) -> 0, read(8) -> 0,",
            "pin(9) -> 1, referenceTime(9, 1) -> 4, referenceTime(9, 2) -> 2, referenceTime(9, 3) -> 1, read(9) -> 1,",
            "referenceTime(9, 1) -> 5, referenceTime(9, 2) -> 4, referenceTime(9, 3) -> 2, referenceTime(8, 1) -> 3,",
            "referenceTime(8, 2) -> -9, referenceTime(10, 1) -> -9");
        runs.run("14: survives eviction", "reset(1, 2, 1, 50) -> 0, read(9) -> 0, read(9) -> 0, read(8) -> 0,",
            "isResident(9) -> 0, referenceTime(9, 1) -> 2, referenceTime(9, 2) -> 1, read(9) -> 0,",
            "referenceTime(9, 1) -> 4, referenceTime(9, 2) -> 2");
        runs.run("14: the last page", "reset(1, 3, 1, 50) -> 0, read(63) -> 0, read(63) -> 0, read(63) -> 0,",
            "referenceTime(63, 3) -> 1, referenceTime(62, 1) -> -9, referenceTime(63, 4) -> -8");
    }

    private static void retention(Runs runs) {
        runs.run("14: stale but not yet deleted", "reset(1, 2, 1, 1) -> 0, read(1) -> 0, read(1) -> 0, read(2) -> 0,",
            "read(2) -> 0, read(2) -> 0, referenceTime(1, 1) -> 2, referenceTime(1, 2) -> 1, backwardKDistance(1) -> 4,",
            "read(1) -> 0, referenceTime(1, 1) -> 6, referenceTime(1, 2) -> -9");
        runs.run("14: at the period kept, beyond it deleted", "reset(1, 3, 1, 2) -> 0, read(1) -> 0, read(2) -> 0,",
            "read(1) -> 0, referenceTime(1, 2) -> 1, read(2) -> 0, referenceTime(2, 2) -> 2, read(2) -> 0, read(1) -> 0,",
            "referenceTime(1, 1) -> 6, referenceTime(1, 2) -> -9, referenceTime(1, 3) -> -9");
        runs.run("14: retention 0 deletes at every miss", "reset(1, 2, 1, 0) -> 0, read(1) -> 0, read(1) -> 0,",
            "referenceTime(1, 2) -> 1, read(2) -> 0, referenceTime(1, 2) -> 1, read(1) -> 0, referenceTime(1, 1) -> 4,",
            "referenceTime(1, 2) -> -9");
        runs.run("14: a resident page keeps its own", "reset(2, 2, 1, 0) -> 0, read(1) -> 0,",
            Runs.repeat(5, 0, "read(2) -> 0,"), "read(1) -> 0, referenceTime(1, 1) -> 7, referenceTime(1, 2) -> 1");
        runs.run("14: write and pin forget too", "reset(1, 2, 1, 0) -> 0, read(1) -> 0, read(2) -> 0, write(1, 0) -> 0,",
            "referenceTime(1, 2) -> -9, pin(2) -> 1, referenceTime(2, 1) -> 4, referenceTime(2, 2) -> -9");
        runs.run("14: a queued page forgets too", "reset(1, 2, 1, 1) -> 0, write(1, 5) -> 0, read(2) -> 0, read(2) -> 0,",
            "read(1) -> 5, isDirty(1) -> 1, referenceTime(1, 2) -> -9");
    }

    private static void backwardKDistance(Runs runs) {
        runs.run("15", "backwardKDistance(-1) -> -1, backwardKDistance(64) -> -1, backwardKDistance(" + LEAST + ") -> -1,",
            "backwardKDistance(" + MOST + ") -> -1, backwardKDistance(0) -> -9, read(0) -> 0, backwardKDistance(0) -> -9,",
            "read(0) -> 0, backwardKDistance(0) -> 1, read(1) -> 0, backwardKDistance(0) -> 2, pin(0) -> 1,",
            "backwardKDistance(0) -> 2, unpin(0) -> 0, backwardKDistance(0) -> 2, discard(0) -> 1,",
            "backwardKDistance(0) -> -9, backwardKDistance(63) -> -9");
        runs.run("15: K 1 starts at 0", "reset(1, 1, 1, 5) -> 0, read(3) -> 0, backwardKDistance(3) -> 0, read(4) -> 0,",
            "isResident(3) -> 0, backwardKDistance(3) -> 1");
        runs.run("15: K 3", "reset(1, 3, 1, 5) -> 0, read(3) -> 0, read(3) -> 0, backwardKDistance(3) -> -9, read(3) -> 0,",
            "backwardKDistance(3) -> 2, read(3) -> 0, backwardKDistance(3) -> 2");
    }

    private static void victim(Runs runs) {
        runs.run("16: fewer than K go first, by the last reference", "victim() -> -9, read(1) -> 0, victim() -> 1,",
            "read(1) -> 0, victim() -> 1, read(2) -> 0, victim() -> 2, read(3) -> 0, victim() -> 2, read(2) -> 0,",
            "victim() -> 3, read(3) -> 0, victim() -> 1, read(1) -> 0, victim() -> 1, read(1) -> 0, victim() -> 2,",
            "clock() -> 8, evictions() -> 0, residentCount() -> 3");
        runs.run("16: short histories by the latest, not the first", "reset(4, 3, 1, 5) -> 0, read(1) -> 0, read(2) -> 0,",
            "read(1) -> 0, victim() -> 2, read(2) -> 0, victim() -> 1, read(3) -> 0, victim() -> 1, read(1) -> 0,",
            "victim() -> 2, read(2) -> 0, victim() -> 3");
        runs.run("16: by the K-th, not the last", "reset(2, 2, 1, 5) -> 0, read(1) -> 0, read(2) -> 0, read(2) -> 0,",
            "read(1) -> 0, victim() -> 1, read(3) -> 0, isResident(1) -> 0, isResident(2) -> 1");
        runs.run("16: pinned pages are passed over", "reset(3, 1, 1, 5) -> 0, pin(1) -> 1, read(2) -> 0, read(3) -> 0,",
            "victim() -> 2, pin(2) -> 1, victim() -> 3, pin(3) -> 1, victim() -> -9, unpin(2) -> 0, victim() -> 2,",
            "unpin(1) -> 0, victim() -> 1, discard(1) -> 1, victim() -> 2");
        runs.run("16: a full history behind a short one", "reset(2, 2, 1, 50) -> 0, read(63) -> 0, read(63) -> 0, read(0) -> 0,",
            "victim() -> 0, read(5) -> 0, isResident(63) -> 1, isResident(0) -> 0, read(0) -> 0, isResident(5) -> 0,",
            "victim() -> 63");
        runs.run("16: a pinned short one and a full one", "reset(2, 2, 1, 50) -> 0, pin(1) -> 1, read(2) -> 0, read(2) -> 0,",
            "victim() -> 2, read(3) -> 0, isResident(2) -> 0, isResident(1) -> 1, victim() -> 3");
    }

    private static void diskValue(Runs runs) {
        runs.run("17", "diskValue(-1) -> -1, diskValue(64) -> -1, diskValue(" + LEAST + ") -> -1, diskValue(" + MOST + ") -> -1,",
            "write(63, 9999) -> 0, diskValue(63) -> 0, flush(63) -> 1, diskValue(63) -> 9999, write(63, 1) -> 9999,",
            "diskValue(63) -> 9999, diskReads() -> 1, discard(63) -> 1, diskValue(63) -> 9999, read(63) -> 9999");
        runs.run("17: older than the queue's", "reset(1, 1, 1, 5) -> 0, write(1, 11) -> 0, read(2) -> 0,",
            "queuedValue(0) -> 11, diskValue(1) -> 0, drain(1) -> 1, diskValue(1) -> 11, diskReads() -> 2");
    }

    private static void residents(Runs runs) {
        runs.run("18, 19", "residentCount() -> 0, residentPage(0) -> -9, read(63) -> 0, residentCount() -> 1, read(7) -> 0,",
            "read(0) -> 0, residentCount() -> 3, read(63) -> 0, residentCount() -> 3, residentPage(0) -> 0,",
            "residentPage(1) -> 7, residentPage(2) -> 63, residentPage(3) -> -9, residentPage(-1) -> -9,",
            "residentPage(" + LEAST + ") -> -9, residentPage(" + MOST + ") -> -9, read(9) -> 0, residentCount() -> 4,",
            "read(5) -> 0, residentCount() -> 4, residentPage(0) -> 0, residentPage(1) -> 5, residentPage(2) -> 9,",
            "residentPage(3) -> 63, residentPage(4) -> -9, discard(5) -> 1, residentCount() -> 3, residentPage(1) -> 9");
    }

    private static void queue(Runs runs) {
        runs.run("20, 21, 22", "reset(1, 1, 3, 5) -> 0, queueSize() -> 0, queuedPage(0) -> -9, queuedValue(0) -> -9,",
            "write(0, 5) -> 0, queueSize() -> 0, write(63, 6) -> 0, queueSize() -> 1, queuedPage(0) -> 0,",
            "queuedValue(0) -> 5, write(1, 7) -> 0, queueSize() -> 2, queuedPage(1) -> 63, queuedValue(1) -> 6,",
            "queuedPage(2) -> -9, queuedValue(2) -> -9, queuedPage(-1) -> -9, queuedValue(-1) -> -9,",
            "queuedPage(" + LEAST + ") -> -9, queuedValue(" + LEAST + ") -> -9, queuedPage(" + MOST + ") -> -9,",
            "queuedValue(" + MOST + ") -> -9, read(63) -> 6, queueSize() -> 2, queuedPage(0) -> 0, queuedPage(1) -> 1,",
            "queuedValue(1) -> 7");
        runs.run("20: clean pages are not queued", "reset(1, 1, 3, 5) -> 0, read(1) -> 0, read(2) -> 0, evictions() -> 1,",
            "queueSize() -> 0, stalls() -> 0");
        runs.run("20: a page goes to the end again", "reset(1, 1, 3, 5) -> 0, write(1, 11) -> 0, write(2, 22) -> 0,",
            "write(1, 12) -> 11, read(3) -> 0, queueSize() -> 2, queuedPage(0) -> 2, queuedPage(1) -> 1,",
            "queuedValue(1) -> 12");
    }

    private static void counters(Runs runs) {
        runs.run("23 to 29", "reset(2, 1, 1, 5) -> 0, read(1) -> 0, clock() -> 1, hits() -> 0, misses() -> 1,",
            "diskReads() -> 1, write(1, 11) -> 0, clock() -> 2, hits() -> 1, misses() -> 1, pin(1) -> 1, clock() -> 3,",
            "hits() -> 2, unpin(1) -> 0, clock() -> 3, write(2, 22) -> 0, misses() -> 2, evictions() -> 0,",
            "write(3, 33) -> 0, evictions() -> 1, stalls() -> 0, diskWrites() -> 0, diskReads() -> 3, read(4) -> 0,",
            "evictions() -> 2, stalls() -> 1, diskWrites() -> 1, diskReads() -> 4, misses() -> 4, hits() -> 2,",
            "read(2) -> 22, evictions() -> 3, stalls() -> 2, diskWrites() -> 2, diskReads() -> 5, clock() -> 7,",
            "isDirty(2) -> 0, queuedPage(0) -> 3");
        runs.run("27: a load from the queue is no disk read", "reset(1, 1, 2, 5) -> 0, write(1, 11) -> 0, read(2) -> 0,",
            "read(1) -> 11, diskReads() -> 2, misses() -> 3, diskWrites() -> 0, evictions() -> 2");
        runs.run("28: flush, flushAll, drain and stalls", "reset(1, 1, 2, 5) -> 0,", Runs.repeat(4, 1, "write(#, 5) -> 0,"),
            "diskWrites() -> 1, stalls() -> 1, drain(1) -> 1, diskWrites() -> 2, flush(3) -> 1, diskWrites() -> 3,",
            "flushAll() -> 1, diskWrites() -> 4, stalls() -> 1, write(5, 5) -> 0, discard(5) -> 1, diskWrites() -> 4");
        runs.run("queries change nothing", "reset(1, 2, 1, 5) -> 0, write(1, 11) -> 0, write(2, 22) -> 0, victim() -> 2,",
            "isResident(1) -> 0, isDirty(2) -> 1, pinCount(2) -> 0, referenceTime(1, 1) -> 1, backwardKDistance(1) -> -9,",
            "diskValue(1) -> 0, residentCount() -> 1, residentPage(0) -> 2, queueSize() -> 1, queuedPage(0) -> 1,",
            "queuedValue(0) -> 11, clock() -> 2, hits() -> 0, misses() -> 2, evictions() -> 1, diskReads() -> 2,",
            "diskWrites() -> 0, stalls() -> 0, clock() -> 2, hits() -> 0, misses() -> 2, evictions() -> 1, diskReads() -> 2");
    }

    private static void orderOfAMiss(Runs runs) {
        runs.run("a stall before the load, on the page itself", "reset(1, 1, 1, 100) -> 0, write(7, 70) -> 0,",
            "write(8, 80) -> 0, write(7, 71) -> 70, stalls() -> 1, diskReads() -> 3, diskValue(7) -> 70,",
            "queueSize() -> 1, queuedPage(0) -> 8, isDirty(7) -> 1");
        runs.run("a stall before the load, on another page", "reset(1, 1, 2, 100) -> 0, write(6, 60) -> 0,",
            "write(7, 70) -> 0, write(8, 80) -> 0, queueSize() -> 2, read(7) -> 70, stalls() -> 1, diskValue(6) -> 60,",
            "diskValue(7) -> 0, isDirty(7) -> 1, queueSize() -> 1, queuedPage(0) -> 8, queuedValue(0) -> 80,",
            "diskReads() -> 3, diskWrites() -> 1");
        runs.run("a full queue and a clean victim do not stall", "reset(1, 1, 1, 100) -> 0, write(7, 70) -> 0, read(8) -> 0,",
            "queueSize() -> 1, read(7) -> 70, stalls() -> 0, queueSize() -> 0, isDirty(7) -> 1, diskReads() -> 2,",
            "evictions() -> 2");
        runs.run("a free frame does not evict", "reset(2, 1, 1, 100) -> 0, write(1, 11) -> 0, write(2, 22) -> 0,",
            "write(3, 33) -> 0, queuedPage(0) -> 1, discard(2) -> 1, read(1) -> 11, evictions() -> 1, stalls() -> 0,",
            "queueSize() -> 0, isDirty(1) -> 1");
        runs.run("a write does not hit the queue's old value", "reset(1, 1, 2, 100) -> 0, write(1, 11) -> 0,",
            "read(2) -> 0, write(1, 12) -> 11, queueSize() -> 0, read(2) -> 0, queuedValue(0) -> 12, queueSize() -> 1");
    }

    private static void refusalsChangeNothing(Runs runs) {
        runs.run("all pinned leaves history and queue", "reset(1, 2, 1, 0) -> 0, write(1, 11) -> 0, pin(2) -> 1,",
            "read(2) -> 0, read(1) -> -3, write(1, 5) -> -3, pin(1) -> -3, referenceTime(1, 1) -> 1, queueSize() -> 1,",
            "queuedValue(0) -> 11, clock() -> 3, hits() -> 1, misses() -> 2, evictions() -> 1, stalls() -> 0,",
            "diskReads() -> 2, diskWrites() -> 0, residentPage(0) -> 2");
        runs.run("a refused write keeps the page", "write(1, 11) -> 0, flush(1) -> 1, write(1, 10000) -> -2, isDirty(1) -> 0,",
            "read(1) -> 11, clock() -> 2, hits() -> 1");
    }
}
