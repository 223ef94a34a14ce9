import java.util.Random;

/**
 * Runs of calls, drawn from fixed seeds, against PlainModel. A run changes the state for some of the calls that the
 * document allows on one object, looking at it now and then, and spends what is left on looking at all of it.
 * A call that throws is a wrong answer too.
 */
public final class ModelTest {
    private static final int RUNS = 20000;
    private static final int MOST_TOLD = 10;
    private static final int[] ODD_NUMBERS = {-1, 64, 65, 10000, -2, Integer.MIN_VALUE, Integer.MAX_VALUE, -9, 127, 9999};
    private static final String[] STATE = {"clock", "hits", "misses", "evictions", "diskReads", "diskWrites", "stalls",
        "victim", "residentCount", "queueSize"};
    private static final String[] PAGE_STATE = {"isResident", "isDirty", "pinCount", "backwardKDistance", "diskValue"};

    private final Random random;
    private final LruKPageCache cache = new LruKPageCache();
    private final PlainModel model = new PlainModel();
    private final int lowestPage;
    private final int pages;
    private String told;
    private int calls;
    private boolean wrong;

    private ModelTest(long seed) {
        random = new Random(seed);
        pages = random.nextInt(4) == 0 ? 64 : 2 + random.nextInt(24);
        lowestPage = random.nextInt(64 - pages + 1);
    }

    public static void main(String[] args) {
        int wrongRuns = 0;
        for (long seed = 1; seed <= RUNS; seed++) {
            ModelTest test = new ModelTest(seed);
            test.run();
            if (test.wrong && ++wrongRuns <= MOST_TOLD) {
                System.out.println("seed " + seed + ": " + test.told);
            }
        }
        System.out.println(RUNS + " runs, " + wrongRuns + " with an answer that is not due");
        if (wrongRuns != 0) {
            System.exit(1);
        }
    }

    private void run() {
        if (random.nextInt(8) != 0) {
            both("reset", 1 + random.nextInt(random.nextBoolean() ? 3 : 16), 1 + random.nextInt(3),
                1 + random.nextInt(random.nextBoolean() ? 2 : 8), retention());
        }
        int changing = random.nextInt(Runs.MOST_CALLS);
        int resets = 0;
        while (calls < changing && !wrong) {
            if (resets < 2 && random.nextInt(200) == 0) {
                resets++;
                both("reset", random.nextInt(18), random.nextInt(5), random.nextInt(10), retention());
            } else {
                change();
            }
            if (random.nextInt(3) == 0) {
                look();
            }
        }
        lookAtAll();
    }

    private int retention() {
        switch (random.nextInt(6)) {
            case 0: return 0;
            case 1: return 9999;
            case 2: return random.nextBoolean() ? -1 : 10000;
            default: return random.nextInt(30);
        }
    }

    private void change() {
        int dice = random.nextInt(100);
        if (dice < 30) {
            both("read", page(), 0, 0, 0);
        } else if (dice < 60) {
            both("write", page(), random.nextInt(12) == 0 ? odd() : random.nextInt(10000), 0, 0);
        } else if (dice < 70) {
            both("pin", page(), 0, 0, 0);
        } else if (dice < 84) {
            both("unpin", page(), 0, 0, 0);
        } else if (dice < 90) {
            both("flush", page(), 0, 0, 0);
        } else if (dice < 91) {
            both("flushAll", 0, 0, 0, 0);
        } else if (dice < 93) {
            both("drain", random.nextInt(4) == 0 ? odd() : random.nextInt(10), 0, 0, 0);
        } else {
            both("discard", page(), 0, 0, 0);
        }
    }

    /** One look at any part of the state, with any argument. */
    private void look() {
        switch (random.nextInt(6)) {
            case 0: both(STATE[random.nextInt(STATE.length)], 0, 0, 0, 0); break;
            case 1: both("residentPage", position(), 0, 0, 0); break;
            case 2: both("queuedPage", position(), 0, 0, 0); break;
            case 3: both("queuedValue", position(), 0, 0, 0); break;
            case 4: both("referenceTime", page(), random.nextInt(8) == 0 ? odd() : random.nextInt(5), 0, 0); break;
            default: both(PAGE_STATE[random.nextInt(PAGE_STATE.length)], page(), 0, 0, 0);
        }
    }

    /** As much of the state as the calls that are left can show. */
    private void lookAtAll() {
        for (String name : STATE) {
            both(name, 0, 0, 0, 0);
        }
        for (int position = -1; position <= 16; position++) {
            both("residentPage", position, 0, 0, 0);
        }
        for (int position = -1; position <= 8; position++) {
            both("queuedPage", position, 0, 0, 0);
            both("queuedValue", position, 0, 0, 0);
        }
        int first = random.nextInt(pages);
        for (int i = 0; i < pages; i++) {
            lookAtPage(lowestPage + (first + i) % pages);
        }
    }

    private void lookAtPage(int page) {
        for (String name : PAGE_STATE) {
            both(name, page, 0, 0, 0);
        }
        for (int i = 0; i <= 4; i++) {
            both("referenceTime", page, i, 0, 0);
        }
    }

    private int position() {
        return random.nextInt(10) == 0 ? odd() : random.nextInt(18) - 1;
    }

    private int page() {
        return random.nextInt(40) == 0 ? odd() : lowestPage + random.nextInt(pages);
    }

    private int odd() {
        return ODD_NUMBERS[random.nextInt(ODD_NUMBERS.length)];
    }

    private void both(String name, int a, int b, int c, int d) {
        if (wrong || calls == Runs.MOST_CALLS) {
            return;
        }
        calls++;
        int due = model.call(name, a, b, c, d);
        String got;
        try {
            got = Integer.toString(call(name, a, b, c, d));
        } catch (RuntimeException thrown) {
            got = thrown.toString();
        }
        if (!got.equals(Integer.toString(due))) {
            wrong = true;
            told = "call " + calls + ", " + name + " of " + a + ", " + b + ", " + c + ", " + d + " answered " + got
                + ", due is " + due;
        }
    }

    private int call(String name, int a, int b, int c, int d) {
        switch (name) {
            case "reset": return cache.reset(a, b, c, d);
            case "read": return cache.read(a);
            case "write": return cache.write(a, b);
            case "pin": return cache.pin(a);
            case "unpin": return cache.unpin(a);
            case "flush": return cache.flush(a);
            case "flushAll": return cache.flushAll();
            case "drain": return cache.drain(a);
            case "discard": return cache.discard(a);
            case "isResident": return cache.isResident(a);
            case "isDirty": return cache.isDirty(a);
            case "pinCount": return cache.pinCount(a);
            case "referenceTime": return cache.referenceTime(a, b);
            case "backwardKDistance": return cache.backwardKDistance(a);
            case "victim": return cache.victim();
            case "diskValue": return cache.diskValue(a);
            case "residentCount": return cache.residentCount();
            case "residentPage": return cache.residentPage(a);
            case "queueSize": return cache.queueSize();
            case "queuedPage": return cache.queuedPage(a);
            case "queuedValue": return cache.queuedValue(a);
            default: return callCounter(name);
        }
    }

    private int callCounter(String name) {
        switch (name) {
            case "clock": return cache.clock();
            case "hits": return cache.hits();
            case "misses": return cache.misses();
            case "evictions": return cache.evictions();
            case "diskReads": return cache.diskReads();
            case "diskWrites": return cache.diskWrites();
            case "stalls": return cache.stalls();
            default: throw new IllegalArgumentException(name);
        }
    }
}
