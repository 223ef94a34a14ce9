import java.util.ArrayList;
import java.util.List;
import java.util.Map;
import java.util.TreeMap;

/**
 * The document's description once more, written apart from the class under test and with other means:
 * it keeps every reference ever made, and looks back through all of them when it is asked.
 */
final class PlainModel {
    private static final class Frame {
        int value;
        boolean dirty;
        int pins;
    }

    private int capacity = 4;
    private int k = 2;
    private int queueCapacity = 3;
    private int retention = 100;
    private final int[] disk = new int[64];
    private final Map<Integer, Frame> frames = new TreeMap<>();
    private final List<int[]> queue = new ArrayList<>();
    private final List<List<Integer>> histories = new ArrayList<>();
    private int clock;
    private int hits;
    private int misses;
    private int evictions;
    private int diskReads;
    private int diskWrites;
    private int stalls;

    PlainModel() {
        for (int page = 0; page < 64; page++) {
            histories.add(new ArrayList<>());
        }
    }

    int call(String name, int a, int b, int c, int d) {
        switch (name) {
            case "reset": return reset(a, b, c, d);
            case "read": return access(a, -1, false);
            case "write": return b < 0 || b > 9999 ? (bad(a) ? -1 : -2) : access(a, b, false);
            case "pin": return access(a, -1, true);
            case "drain": return a < 0 || a > 8 ? -8 : drain(a);
            case "flushAll": return flushAll();
            case "victim": return victim();
            case "residentCount": return frames.size();
            case "residentPage": return a < 0 || a >= frames.size() ? -9 : new ArrayList<>(frames.keySet()).get(a);
            case "queueSize": return queue.size();
            case "queuedPage": return a < 0 || a >= queue.size() ? -9 : queue.get(a)[0];
            case "queuedValue": return a < 0 || a >= queue.size() ? -9 : queue.get(a)[1];
            case "clock": return clock;
            case "hits": return hits;
            case "misses": return misses;
            case "evictions": return evictions;
            case "diskReads": return diskReads;
            case "diskWrites": return diskWrites;
            case "stalls": return stalls;
            default: return bad(a) ? -1 : callOnPage(name, a, b);
        }
    }

    private int callOnPage(String name, int page, int i) {
        Frame frame = frames.get(page);
        switch (name) {
            case "unpin": return frame == null ? -4 : frame.pins == 0 ? -5 : --frame.pins;
            case "flush": return flush(page);
            case "discard": return discard(page);
            case "isResident": return frame == null ? 0 : 1;
            case "isDirty": return frame == null ? -4 : frame.dirty ? 1 : 0;
            case "pinCount": return frame == null ? -4 : frame.pins;
            case "referenceTime": return i < 1 || i > k ? -8 : nthLast(page, i);
            case "backwardKDistance": return nthLast(page, k) == -9 ? -9 : clock - nthLast(page, k);
            case "diskValue": return disk[page];
            default: throw new IllegalArgumentException(name);
        }
    }

    private static boolean bad(int page) {
        return page < 0 || page > 63;
    }

    private int reset(int a, int b, int c, int d) {
        if (a < 1 || a > 16 || b < 1 || b > 3 || c < 1 || c > 8 || d < 0 || d > 9999) {
            return -8;
        }
        capacity = a;
        k = b;
        queueCapacity = c;
        retention = d;
        java.util.Arrays.fill(disk, 0);
        frames.clear();
        queue.clear();
        histories.forEach(List::clear);
        clock = hits = misses = evictions = diskReads = diskWrites = stalls = 0;
        return 0;
    }

    /** A read if value is negative and pinning is false, a pin if pinning is true, else a write. */
    private int access(int page, int value, boolean pinning) {
        if (bad(page)) {
            return -1;
        }
        if (pinning && frames.containsKey(page) && frames.get(page).pins == 9) {
            return -6;
        }
        boolean hit = frames.containsKey(page);
        if (!hit && frames.size() == capacity && victim() == -9) {
            return -3;
        }
        clock++;
        if (hit) {
            hits++;
        } else {
            miss(page);
        }
        histories.get(page).add(clock);
        Frame frame = frames.get(page);
        int before = frame.value;
        if (pinning) {
            return ++frame.pins;
        }
        if (value >= 0) {
            frame.value = value;
            frame.dirty = true;
        }
        return before;
    }

    private void miss(int page) {
        misses++;
        if (nthLast(page, 1) != -9 && clock - nthLast(page, 1) > retention) {
            histories.get(page).clear();
        }
        if (frames.size() == capacity) {
            int old = victim();
            Frame frame = frames.remove(old);
            evictions++;
            if (frame.dirty) {
                if (queue.size() == queueCapacity) {
                    stalls++;
                    drain(1);
                }
                queue.add(new int[] {old, frame.value});
            }
        }
        Frame loaded = new Frame();
        int[] entry = takeEntry(page);
        if (entry == null) {
            diskReads++;
            loaded.value = disk[page];
        } else {
            loaded.value = entry[1];
            loaded.dirty = true;
        }
        frames.put(page, loaded);
    }

    private int[] takeEntry(int page) {
        for (int[] entry : queue) {
            if (entry[0] == page) {
                queue.remove(entry);
                return entry;
            }
        }
        return null;
    }

    private int nthLast(int page, int n) {
        List<Integer> history = histories.get(page);
        return n > history.size() ? -9 : history.get(history.size() - n);
    }

    private int victim() {
        int shortest = oldest(1, true);
        return shortest != -9 ? shortest : oldest(k, false);
    }

    private int oldest(int n, boolean ofShort) {
        int found = -9;
        for (Map.Entry<Integer, Frame> entry : frames.entrySet()) {
            int page = entry.getKey();
            boolean isShort = histories.get(page).size() < k;
            if (entry.getValue().pins == 0 && isShort == ofShort
                    && (found == -9 || nthLast(page, n) < nthLast(found, n))) {
                found = page;
            }
        }
        return found;
    }

    private int drain(int count) {
        int written = 0;
        while (written < count && !queue.isEmpty()) {
            int[] entry = queue.remove(0);
            disk[entry[0]] = entry[1];
            diskWrites++;
            written++;
        }
        return written;
    }

    private int flush(int page) {
        int[] entry = takeEntry(page);
        Frame frame = frames.get(page);
        if (entry == null && (frame == null || !frame.dirty)) {
            return 0;
        }
        disk[page] = entry != null ? entry[1] : frame.value;
        if (frame != null) {
            frame.dirty = false;
        }
        diskWrites++;
        return 1;
    }

    private int flushAll() {
        int written = drain(queue.size());
        for (int page : frames.keySet()) {
            written += flush(page);
        }
        return written;
    }

    private int discard(int page) {
        Frame frame = frames.get(page);
        if (frame != null && frame.pins > 0) {
            return -7;
        }
        histories.get(page).clear();
        boolean queued = takeEntry(page) != null;
        return frames.remove(page) != null || queued ? 1 : 0;
    }
}
