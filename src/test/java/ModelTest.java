import java.util.Random;

/**
 * Long runs of calls, drawn from fixed seeds, against PlainModel. After every call the whole visible state is
 * compared, so a wrong change shows at the call that made it; a call that throws is a wrong answer too.
 */
public final class ModelTest {
    private static final int RUNS = 1500;
    private static final int CALLS = 512;
    private static final int MOST_TOLD = 10;
    private static final int[] ODD_NUMBERS = {-1, 64, 65, 10000, -2, Integer.MIN_VALUE, Integer.MAX_VALUE, -9, 127, 9999};
    private static final String[] STATE = {"clock", "hits", "misses", "evictions", "diskReads", "diskWrites", "stalls",
        "victim", "residentCount", "queueSize"};
    private static final String[] PAGE_STATE = {"isResident", "isDirty", "pinCount", "backwardKDistance", "diskValue"};

    private final Random random;
    private final LruKPageCache cache = new LruKPageCache();
    private final PlainModel model = new PlainModel();
    private final int lowestPage;
    private final int pages;
    private final StringBuilder told = new StringBuilder();
    private boolean wrong;

    private ModelTest(long seed) {
        random = new Random(seed);
        pages = random.nextInt(4) == 0 ? 64 : 2 + random.nextInt(24);
        lowestPage = random.nextInt(64 - pages + 1);
    }

    public static void main(String[] args) {
        int wrongRuns = 0;
        for (long seed = 1; seed <= RUNS; seed++) {
            ModelTest test = new ModelTest(seed);
            test.run();
            if (test.wrong && ++wrongRuns <= MOST_TOLD) {
                System.out.println("seed " + seed + ": " + test.told);
            }
        }
        System.out.println(RUNS + " runs, " + wrongRuns + " with an answer that is not due");
        if (wrongRuns != 0) {
            System.exit(1);
        }
    }

    private void run() {
        if (random.nextInt(8) != 0) {
            both("reset", 1 + random.nextInt(random.nextBoolean() ? 3 : 16), 1 + random.nextInt(3),
                1 + random.nextInt(random.nextBoolean() ? 2 : 8), retention());
        }
        int resets = 0;
        for (int i = 1; i < CALLS && !wrong; i++) {
            if (resets < 2 && random.nextInt(200) == 0) {
                resets++;
                both("reset", random.nextInt(18), random.nextInt(5), random.nextInt(10), retention());
            } else {
                change();
            }
            compareState();
        }
    }

    private int retention() {
        switch (random.nextInt(6)) {
            case 0: return 0;
            case 1: return 9999;
            case 2: return random.nextBoolean() ? -1 : 10000;
            default: return random.nextInt(30);
        }
    }

    private void change() {
        int dice = random.nextInt(100);
        if (dice < 30) {
            both("read", page(), 0, 0, 0);
        } else if (dice < 60) {
            both("write", page(), random.nextInt(12) == 0 ? odd() : random.nextInt(10000), 0, 0);
        } else if (dice < 70) {
            both("pin", page(), 0, 0, 0);
        } else if (dice < 84) {
            both("unpin", page(), 0, 0, 0);
        } else if (dice < 90) {
            both("flush", page(), 0, 0, 0);
        } else if (dice < 91) {
            both("flushAll", 0, 0, 0, 0);
        } else if (dice < 93) {
            both("drain", random.nextInt(4) == 0 ? odd() : random.nextInt(10), 0, 0, 0);
        } else if (dice < 98) {
            both("discard", page(), 0, 0, 0);
        } else {
            oddQueries();
        }
    }

    private void oddQueries() {
        for (String name : PAGE_STATE) {
            both(name, odd(), 0, 0, 0);
        }
        both("referenceTime", page(), odd(), 0, 0);
        both("referenceTime", odd(), random.nextInt(5), 0, 0);
        both("residentPage", odd(), 0, 0, 0);
        both("queuedPage", odd(), 0, 0, 0);
        both("queuedValue", odd(), 0, 0, 0);
    }

    private void compareState() {
        for (String name : STATE) {
            both(name, 0, 0, 0, 0);
        }
        for (int position = -1; position <= 16; position++) {
            both("residentPage", position, 0, 0, 0);
        }
        for (int position = -1; position <= 8; position++) {
            both("queuedPage", position, 0, 0, 0);
            both("queuedValue", position, 0, 0, 0);
        }
        for (int page = lowestPage; page < lowestPage + pages; page++) {
            for (String name : PAGE_STATE) {
                both(name, page, 0, 0, 0);
            }
            for (int i = 0; i <= 4; i++) {
                both("referenceTime", page, i, 0, 0);
            }
        }
    }

    private int page() {
        return random.nextInt(40) == 0 ? odd() : lowestPage + random.nextInt(pages);
    }

    private int odd() {
        return ODD_NUMBERS[random.nextInt(ODD_NUMBERS.length)];
    }

    private void both(String name, int a, int b, int c, int d) {
        if (wrong) {
            return;
        }
        int due = model.call(name, a, b, c, d);
        String got;
        try {
            got = Integer.toString(call(name, a, b, c, d));
        } catch (RuntimeException thrown) {
            got = thrown.toString();
        }
        if (!got.equals(Integer.toString(due))) {
            wrong = true;
            told.append(name).append(" of ").append(a).append(", ").append(b).append(", ").append(c).append(", ")
                .append(d).append(" answered ").append(got).append(", due is ").append(due);
        }
    }

    private int call(String name, int a, int b, int c, int d) {
        switch (name) {
            case "reset": return cache.reset(a, b, c, d);
            case "read": return cache.read(a);
            case "write": return cache.write(a, b);
            case "pin": return cache.pin(a);
            case "unpin": return cache.unpin(a);
            case "flush": return cache.flush(a);
            case "flushAll": return cache.flushAll();
            case "drain": return cache.drain(a);
            case "discard": return cache.discard(a);
            case "isResident": return cache.isResident(a);
            case "isDirty": return cache.isDirty(a);
            case "pinCount": return cache.pinCount(a);
            case "referenceTime": return cache.referenceTime(a, b);
            case "backwardKDistance": return cache.backwardKDistance(a);
            case "victim": return cache.victim();
            case "diskValue": return cache.diskValue(a);
            case "residentCount": return cache.residentCount();
            case "residentPage": return cache.residentPage(a);
            case "queueSize": return cache.queueSize();
            case "queuedPage": return cache.queuedPage(a);
            case "queuedValue": return cache.queuedValue(a);
            default: return callCounter(name);
        }
    }

    private int callCounter(String name) {
        switch (name) {
            case "clock": return cache.clock();
            case "hits": return cache.hits();
            case "misses": return cache.misses();
            case "evictions": return cache.evictions();
            case "diskReads": return cache.diskReads();
            case "diskWrites": return cache.diskWrites();
            case "stalls": return cache.stalls();
            default: throw new IllegalArgumentException(name);
        }
    }
}
