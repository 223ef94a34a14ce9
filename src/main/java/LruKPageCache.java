import java.util.Arrays;

/**
 * A page cache with LRU-K replacement, pinned pages and a write-back queue, in front of a simulated disk.
 *
 * <p>Every public method tests its page number before anything else sees it, so the classes inside take a page
 * as tested. All rows are made once, by the constructor; no later call makes an object.
 */
public final class LruKPageCache {
    public static final int NO_SUCH_PAGE = -1;
    public static final int BAD_VALUE = -2;
    public static final int ALL_PINNED = -3;
    public static final int NOT_RESIDENT = -4;
    public static final int NOT_PINNED = -5;
    public static final int PIN_LIMIT = -6;
    public static final int PAGE_PINNED = -7;
    public static final int BAD_ARGUMENT = -8;
    public static final int NONE = -9;

    private static final int PAGES = 64;
    private static final int MAX_VALUE = 9999;
    private static final int MAX_PINS = 9;
    private static final int MAX_CAPACITY = 16;
    private static final int MAX_K = 3;
    private static final int MAX_QUEUE = 8;
    private static final int MAX_RETENTION = 9999;

    private final Disk disk;
    private final Frames frames;
    private final WriteBackQueue queue;
    private final Histories histories;
    private int retentionPeriod;
    private int now;
    private int hitTotal;
    private int missTotal;
    private int evictionTotal;
    private int stallTotal;

    public LruKPageCache() {
        disk = new Disk();
        frames = new Frames();
        queue = new WriteBackQueue();
        histories = new Histories();
        startAnew(4, 2, 3, 100);
    }

    public int reset(int capacity, int k, int queueCapacity, int retention) {
        if (!isWithin(capacity, 1, MAX_CAPACITY) || !isWithin(k, 1, MAX_K)
                || !isWithin(queueCapacity, 1, MAX_QUEUE) || !isWithin(retention, 0, MAX_RETENTION)) {
            return BAD_ARGUMENT;
        }
        startAnew(capacity, k, queueCapacity, retention);
        return 0;
    }

    public int read(int page) {
        if (!isPage(page)) {
            return NO_SUCH_PAGE;
        }
        if (!canReference(page)) {
            return ALL_PINNED;
        }
        reference(page);
        return frames.valueOf(page);
    }

    public int write(int page, int value) {
        if (!isPage(page)) {
            return NO_SUCH_PAGE;
        }
        if (!isWithin(value, 0, MAX_VALUE)) {
            return BAD_VALUE;
        }
        if (!canReference(page)) {
            return ALL_PINNED;
        }
        reference(page);
        int previous = frames.valueOf(page);
        frames.change(page, value);
        return previous;
    }

    public int pin(int page) {
        if (!isPage(page)) {
            return NO_SUCH_PAGE;
        }
        if (frames.pinsOf(page) >= MAX_PINS) {
            return PIN_LIMIT;
        }
        if (!canReference(page)) {
            return ALL_PINNED;
        }
        reference(page);
        frames.addPin(page);
        return frames.pinsOf(page);
    }

    public int unpin(int page) {
        if (!isPage(page)) {
            return NO_SUCH_PAGE;
        }
        if (!frames.holds(page)) {
            return NOT_RESIDENT;
        }
        if (frames.pinsOf(page) == 0) {
            return NOT_PINNED;
        }
        frames.removePin(page);
        return frames.pinsOf(page);
    }

    public int flush(int page) {
        if (!isPage(page)) {
            return NO_SUCH_PAGE;
        }
        if (frames.isChanged(page)) {
            writeFrame(page);
            return 1;
        }
        int position = queue.positionOf(page);
        if (position == NONE) {
            return 0;
        }
        writeEntry(position);
        return 1;
    }

    public int flushAll() {
        int written = writeOldest(queue.length());
        for (int page = 0; page < PAGES; page++) {
            if (frames.isChanged(page)) {
                writeFrame(page);
                written++;
            }
        }
        return written;
    }

    public int drain(int count) {
        if (!isWithin(count, 0, MAX_QUEUE)) {
            return BAD_ARGUMENT;
        }
        return writeOldest(count);
    }

    public int discard(int page) {
        if (!isPage(page)) {
            return NO_SUCH_PAGE;
        }
        if (frames.pinsOf(page) > 0) {
            return PAGE_PINNED;
        }
        histories.forget(page);
        if (frames.holds(page)) {
            frames.release(page);
            return 1;
        }
        int position = queue.positionOf(page);
        if (position == NONE) {
            return 0;
        }
        queue.removeAt(position);
        return 1;
    }

    public int isResident(int page) {
        if (!isPage(page)) {
            return NO_SUCH_PAGE;
        }
        return frames.holds(page) ? 1 : 0;
    }

    public int isDirty(int page) {
        if (!isPage(page)) {
            return NO_SUCH_PAGE;
        }
        if (!frames.holds(page)) {
            return NOT_RESIDENT;
        }
        return frames.isChanged(page) ? 1 : 0;
    }

    public int pinCount(int page) {
        if (!isPage(page)) {
            return NO_SUCH_PAGE;
        }
        if (!frames.holds(page)) {
            return NOT_RESIDENT;
        }
        return frames.pinsOf(page);
    }

    public int referenceTime(int page, int i) {
        if (!isPage(page)) {
            return NO_SUCH_PAGE;
        }
        if (!isWithin(i, 1, histories.depth())) {
            return BAD_ARGUMENT;
        }
        return histories.timeOf(page, i);
    }

    public int backwardKDistance(int page) {
        if (!isPage(page)) {
            return NO_SUCH_PAGE;
        }
        int time = histories.timeOf(page, histories.depth());
        return time == NONE ? NONE : now - time;
    }

    public int victim() {
        return chooseVictim();
    }

    public int diskValue(int page) {
        if (!isPage(page)) {
            return NO_SUCH_PAGE;
        }
        return disk.valueOf(page);
    }

    public int residentCount() {
        return frames.used();
    }

    public int residentPage(int position) {
        return frames.pageAt(position);
    }

    public int queueSize() {
        return queue.length();
    }

    public int queuedPage(int position) {
        return queue.pageAt(position);
    }

    public int queuedValue(int position) {
        return queue.valueAt(position);
    }

    public int clock() {
        return now;
    }

    public int hits() {
        return hitTotal;
    }

    public int misses() {
        return missTotal;
    }

    public int evictions() {
        return evictionTotal;
    }

    public int diskReads() {
        return disk.loads();
    }

    public int diskWrites() {
        return disk.stores();
    }

    public int stalls() {
        return stallTotal;
    }

    private static boolean isPage(int page) {
        return isWithin(page, 0, PAGES - 1);
    }

    private static boolean isWithin(int number, int least, int most) {
        return number >= least && number <= most;
    }

    private void startAnew(int capacity, int k, int queueCapacity, int retention) {
        disk.erase();
        frames.empty(capacity);
        queue.empty(queueCapacity);
        histories.forgetAll(k);
        retentionPeriod = retention;
        now = 0;
        hitTotal = 0;
        missTotal = 0;
        evictionTotal = 0;
        stallTotal = 0;
    }

    private boolean canReference(int page) {
        return frames.holds(page) || !frames.areFull() || chooseVictim() != NONE;
    }

    /** Takes a page for which canReference holds, so that nothing has changed when a call is refused. */
    private void reference(int page) {
        now++;
        if (frames.holds(page)) {
            hitTotal++;
        } else {
            missTotal++;
            makeRoom();
            load(page);
            forgetIfStale(page);
        }
        histories.record(page, now);
    }

    private void makeRoom() {
        if (!frames.areFull()) {
            return;
        }
        int page = chooseVictim();
        if (page == NONE) {
            return;
        }
        if (frames.isChanged(page)) {
            enqueue(page);
        }
        frames.release(page);
        evictionTotal++;
    }

    private void enqueue(int page) {
        if (queue.isFull()) {
            writeEntry(0);
            stallTotal++;
        }
        queue.append(page, frames.valueOf(page));
    }

    /** Looks into the queue only now, after makeRoom: a stall may just have written this page's own entry. */
    private void load(int page) {
        int position = queue.positionOf(page);
        if (position == NONE) {
            frames.place(page, disk.load(page));
            return;
        }
        int value = queue.valueAt(position);
        queue.removeAt(position);
        frames.place(page, value);
        frames.change(page, value);
    }

    private void forgetIfStale(int page) {
        int latest = histories.timeOf(page, 1);
        if (latest != NONE && now - latest > retentionPeriod) {
            histories.forget(page);
        }
    }

    private int chooseVictim() {
        int chosen = NONE;
        for (int page = 0; page < PAGES; page++) {
            if (frames.holds(page) && frames.pinsOf(page) == 0
                    && (chosen == NONE || histories.goesBefore(page, chosen))) {
                chosen = page;
            }
        }
        return chosen;
    }

    private void writeFrame(int page) {
        disk.store(page, frames.valueOf(page));
        frames.markClean(page);
    }

    private int writeOldest(int count) {
        int written = Math.min(count, queue.length());
        for (int i = 0; i < written; i++) {
            writeEntry(0);
        }
        return written;
    }

    private void writeEntry(int position) {
        int page = queue.pageAt(position);
        if (page == NONE) {
            return;
        }
        disk.store(page, queue.valueAt(position));
        queue.removeAt(position);
    }

    /** The values on disk, and how often they were loaded and stored. */
    private static final class Disk {
        private final int[] values;
        private int loadTotal;
        private int storeTotal;

        Disk() {
            values = new int[PAGES];
        }

        void erase() {
            Arrays.fill(values, 0);
            loadTotal = 0;
            storeTotal = 0;
        }

        int valueOf(int page) {
            return values[page];
        }

        int load(int page) {
            loadTotal++;
            return values[page];
        }

        void store(int page, int value) {
            storeTotal++;
            values[page] = value;
        }

        int loads() {
            return loadTotal;
        }

        int stores() {
            return storeTotal;
        }
    }

    /** The resident pages. The rows go by page number; a page that is not resident is unchanged and has no pins. */
    private static final class Frames {
        private final boolean[] resident;
        private final boolean[] changed;
        private final int[] values;
        private final int[] pins;
        private int capacity;
        private int usedFrames;

        Frames() {
            resident = new boolean[PAGES];
            changed = new boolean[PAGES];
            values = new int[PAGES];
            pins = new int[PAGES];
        }

        void empty(int newCapacity) {
            for (int page = 0; page < PAGES; page++) {
                vacate(page);
            }
            usedFrames = 0;
            capacity = newCapacity;
        }

        boolean areFull() {
            return usedFrames >= capacity;
        }

        int used() {
            return usedFrames;
        }

        boolean holds(int page) {
            return resident[page];
        }

        boolean isChanged(int page) {
            return changed[page];
        }

        int valueOf(int page) {
            return values[page];
        }

        int pinsOf(int page) {
            return pins[page];
        }

        int pageAt(int position) {
            int passed = 0;
            for (int page = 0; page < PAGES; page++) {
                if (resident[page]) {
                    if (passed == position) {
                        return page;
                    }
                    passed++;
                }
            }
            return NONE;
        }

        void place(int page, int value) {
            resident[page] = true;
            values[page] = value;
            usedFrames++;
        }

        void release(int page) {
            vacate(page);
            usedFrames--;
        }

        void change(int page, int value) {
            values[page] = value;
            changed[page] = true;
        }

        void markClean(int page) {
            changed[page] = false;
        }

        void addPin(int page) {
            pins[page]++;
        }

        void removePin(int page) {
            pins[page]--;
        }

        private void vacate(int page) {
            resident[page] = false;
            changed[page] = false;
            pins[page] = 0;
        }
    }

    /** Evicted pages whose values are not yet on disk, the oldest at position 0. */
    private static final class WriteBackQueue {
        private final int[] pages;
        private final int[] values;
        private int capacity;
        private int size;

        WriteBackQueue() {
            pages = new int[MAX_QUEUE];
            values = new int[MAX_QUEUE];
        }

        void empty(int newCapacity) {
            size = 0;
            capacity = newCapacity;
        }

        int length() {
            return size;
        }

        boolean isFull() {
            return size >= capacity;
        }

        int pageAt(int position) {
            return has(position) ? pages[position] : NONE;
        }

        int valueAt(int position) {
            return has(position) ? values[position] : NONE;
        }

        int positionOf(int page) {
            for (int position = 0; position < size; position++) {
                if (pages[position] == page) {
                    return position;
                }
            }
            return NONE;
        }

        void append(int page, int value) {
            if (isFull()) {
                return;
            }
            pages[size] = page;
            values[size] = value;
            size++;
        }

        void removeAt(int position) {
            if (!has(position)) {
                return;
            }
            size--;
            for (int i = position; i < size; i++) {
                pages[i] = pages[i + 1];
                values[i] = values[i + 1];
            }
        }

        private boolean has(int position) {
            return position >= 0 && position < size;
        }
    }

    /** The times of the last K references of every page, in MAX_K places a page, the most recent first. */
    private static final class Histories {
        private final int[] times;
        private final int[] lengths;
        private int k;

        Histories() {
            times = new int[PAGES * MAX_K];
            lengths = new int[PAGES];
        }

        void forgetAll(int newK) {
            Arrays.fill(lengths, 0);
            k = newK;
        }

        void forget(int page) {
            lengths[page] = 0;
        }

        int depth() {
            return k;
        }

        int timeOf(int page, int i) {
            return i >= 1 && i <= lengths[page] ? times[page * MAX_K + i - 1] : NONE;
        }

        void record(int page, int time) {
            int first = page * MAX_K;
            for (int i = first + MAX_K - 1; i > first; i--) {
                times[i] = times[i - 1];
            }
            times[first] = time;
            if (lengths[page] < k) {
                lengths[page]++;
            }
        }

        /** Tells whether replacement takes the one resident page before the other. */
        boolean goesBefore(int page, int other) {
            boolean pageIsShort = lengths[page] < k;
            boolean otherIsShort = lengths[other] < k;
            if (pageIsShort != otherIsShort) {
                return pageIsShort;
            }
            int i = pageIsShort ? 1 : k;
            return timeOf(page, i) < timeOf(other, i);
        }
    }
}
