/** The runs of the document's section "Examples", as they stand there. */
public final class ExamplesTest {
    public static void main(String[] args) {
        Runs runs = new Runs();
        runs.run("An eviction and its write-back",
            "write(1, 10) -> 0, write(2, 20) -> 0, read(1) -> 10, read(3) -> 0, read(4) -> 0,",
            "victim() -> 2, read(5) -> 0, isResident(2) -> 0, queuedPage(0) -> 2, queuedValue(0) -> 20, diskValue(2) -> 0,",
            "read(2) -> 20, isDirty(2) -> 1, isDirty(3) -> -4");
        runs.run("A miss that stalls on its own page",
            "reset(1, 1, 1, 100) -> 0, write(7, 70) -> 0, write(8, 80) -> 0, queuedPage(0) -> 7,",
            "read(7) -> 70, stalls() -> 1, diskReads() -> 3, isDirty(7) -> 0, queuedPage(0) -> 8, diskValue(7) -> 70");
        runs.run("Correlated references",
            "reset(1, 2, 1, 3) -> 0, read(1) -> 0, read(2) -> 0, read(2) -> 0, read(1) -> 0,",
            "referenceTime(1, 2) -> 1, read(2) -> 0, read(2) -> 0, read(2) -> 0, read(1) -> 0, referenceTime(1, 1) -> 8,",
            "referenceTime(1, 2) -> -9");
        runs.run("All frames pinned",
            "reset(1, 2, 1, 100) -> 0, pin(1) -> 1, read(2) -> -3, clock() -> 1, misses() -> 1, unpin(1) -> 0,",
            "read(2) -> 0, clock() -> 2");
        runs.run("Refusals, and pins",
            "read(64) -> -1, write(64, 10000) -> -1, write(0, 10000) -> -2, pin(9) -> 1, pin(9) -> 2,",
            "discard(9) -> -7, unpin(9) -> 1, unpin(9) -> 0, unpin(9) -> -5, discard(9) -> 1, unpin(9) -> -4, discard(9) -> 0");
        runs.end();
    }
}
