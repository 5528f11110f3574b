import java.util.ArrayList;
import java.util.Iterator;
import java.util.List;
import java.util.TreeMap;
import java.util.TreeSet;

/**
 * The document once more, written another way than the program: a state is sound when the world read
 * from it has just these bytes, and a replay makes real calls on another model.
 */
final class Model {
    private static final class Thing {
        int x;
        int y;
        int vx;
        int vy;
        int width;
        int height;
        int timer;
    }

    private final int[] generation = new int[16];
    private final TreeMap<Integer, Thing> things = new TreeMap<>();
    private final TreeSet<Integer> touching = new TreeSet<>();
    private final List<int[]> events = new ArrayList<>();
    private long clock = 0;
    private List<Integer> saved;
    private final List<Integer> log = new ArrayList<>();

    Model() {
        saved = bytesOfWorld();
    }

    int create(int x, int y) {
        need(in(x, 0, 4095) && in(y, 0, 4095));
        int slot = 0;
        while (things.containsKey(slot)) {
            slot++;
        }
        if (slot == 16) {
            throw new IllegalStateException();
        }
        note(1, x >> 8, x & 255, y >> 8, y & 255);
        Thing thing = new Thing();
        thing.x = x;
        thing.y = y;
        things.put(slot, thing);
        return slot + 16 * generation[slot];
    }

    void destroy(int handle) {
        thingOf(handle);
        note(2, handle >> 16, handle >> 8 & 255, handle & 255);
        go(handle % 16);
    }

    void speed(int handle, int vx, int vy) {
        Thing thing = thingOf(handle);
        need(in(vx, -100, 100) && in(vy, -100, 100));
        note(3, handle >> 16, handle >> 8 & 255, handle & 255, vx + 128, vy + 128);
        thing.vx = vx;
        thing.vy = vy;
    }

    void shape(int handle, int width, int height) {
        Thing thing = thingOf(handle);
        need(in(width, 0, 200) && in(height, 0, 200) && (width == 0) == (height == 0));
        note(4, handle >> 16, handle >> 8 & 255, handle & 255, width, height);
        thing.width = width;
        thing.height = height;
    }

    void timer(int handle, int n) {
        Thing thing = thingOf(handle);
        need(in(n, 0, 60000));
        note(5, handle >> 16, handle >> 8 & 255, handle & 255, n >> 8, n & 255);
        thing.timer = n;
    }

    int tick(int n) {
        need(in(n, 1, 50));
        int[] entries = new int[n];
        java.util.Arrays.fill(entries, 6);
        note(entries);
        for (int i = 0; i < n; i++) {
            tickOnce();
        }
        return events.size();
    }

    int event(int k, int what) {
        if (!in(k, 0, events.size() - 1)) {
            throw new IndexOutOfBoundsException();
        }
        need(in(what, 0, 2));
        return events.get(k)[what];
    }

    boolean good(int handle) {
        return handle >= 0 && things.containsKey(handle % 16) && generation[handle % 16] == handle / 16;
    }

    int about(int handle, int what) {
        Thing t = thingOf(handle);
        if (!in(what, 0, 6)) {
            throw new IndexOutOfBoundsException();
        }
        return new int[] {t.x, t.y, t.vx, t.vy, t.width, t.height, t.timer}[what];
    }

    int handleOf(int slot) {
        if (!in(slot, 0, 15)) {
            throw new IndexOutOfBoundsException();
        }
        return things.containsKey(slot) ? slot + 16 * generation[slot] : -1;
    }

    int under(int x, int y) {
        need(in(x, 0, 4095) && in(y, 0, 4095));
        int sum = 0;
        for (int slot : things.keySet()) {
            Thing t = things.get(slot);
            if (Math.abs(t.x - x) < t.width && Math.abs(t.y - y) < t.height) {
                sum |= 1 << slot;
            }
        }
        return sum;
    }

    int clock() {
        return (int) clock;
    }

    int save() {
        saved = bytesOfWorld();
        log.clear();
        events.clear();
        return saved.size();
    }

    void load() {
        become(worldOf(saved));
        log.clear();
    }

    int replay() {
        Model other = worldOf(saved);
        int place = 0;
        while (place < log.size()) {
            int length = other.redo(log.subList(place, log.size()));
            if (length == 0) {
                return place;
            }
            place += length;
        }
        become(other);
        return -1;
    }

    int size(boolean ofLog) {
        return (ofLog ? log : saved).size();
    }

    int at(int k, boolean ofLog) {
        if (!in(k, 0, size(ofLog) - 1)) {
            throw new IndexOutOfBoundsException();
        }
        return (ofLog ? log : saved).get(k);
    }

    void corrupt(int k, int b, boolean ofLog) {
        at(k, ofLog);
        need(in(b, 0, 255));
        (ofLog ? log : saved).set(k, b);
    }

    private static boolean in(int number, int least, int most) {
        return least <= number && number <= most;
    }

    private static void need(boolean holds) {
        if (!holds) {
            throw new IllegalArgumentException();
        }
    }

    private Thing thingOf(int handle) {
        need(good(handle));
        return things.get(handle % 16);
    }

    private void note(int... entry) {
        if (log.size() + entry.length > 400) {
            throw new UnsupportedOperationException();
        }
        for (int b : entry) {
            log.add(b);
        }
    }

    private void go(int slot) {
        things.remove(slot);
        generation[slot] = generation[slot] == 65535 ? 0 : generation[slot] + 1;
        touching.removeIf(pair -> pair / 16 == slot || pair % 16 == slot);
    }

    private void tickOnce() {
        clock = Math.min(clock + 1, Integer.MAX_VALUE);
        for (int slot = 0; slot < 16; slot++) {
            Thing t = things.get(slot);
            if (t != null && t.timer != 0 && --t.timer == 0) {
                go(slot);
            }
        }
        for (Thing t : things.values()) {
            int x = t.x + t.vx;
            int y = t.y + t.vy;
            t.x = x < 0 ? -x : x > 4095 ? 8190 - x : x;
            t.y = y < 0 ? -y : y > 4095 ? 8190 - y : y;
            t.vx = x == t.x ? t.vx : -t.vx;
            t.vy = y == t.y ? t.vy : -t.vy;
        }
        TreeSet<Integer> overlapping = overlapping();
        TreeSet<Integer> all = new TreeSet<>(touching);
        all.addAll(overlapping);
        events.clear();
        for (int pair : all) {
            int kind = !overlapping.contains(pair) ? 2 : touching.contains(pair) ? 1 : 0;
            events.add(new int[] {kind, pair / 16, pair % 16});
        }
        touching.clear();
        touching.addAll(overlapping);
    }

    private TreeSet<Integer> overlapping() {
        TreeSet<Integer> pairs = new TreeSet<>();
        for (int a : things.keySet()) {
            for (int b : things.tailMap(a, false).keySet()) {
                Thing s = things.get(a);
                Thing t = things.get(b);
                boolean shaped = s.width != 0 && t.width != 0;
                if (shaped && Math.abs(s.x - t.x) < s.width + t.width && Math.abs(s.y - t.y) < s.height + t.height) {
                    pairs.add(a * 16 + b);
                }
            }
        }
        return pairs;
    }

    private List<Integer> bytesOfWorld() {
        List<Integer> out = new ArrayList<>();
        out.add(84);
        for (int shift = 24; shift >= 0; shift -= 8) {
            out.add((int) (clock >> shift & 255));
        }
        for (int slot = 0; slot < 16; slot++) {
            addSlot(out, generation[slot], things.get(slot));
        }
        out.add(touching.size());
        out.addAll(touching);
        int c = 1;
        int d = 0;
        for (int b : out) {
            c = (c + b) % 251;
            d = (d + c) % 251;
        }
        out.add(d);
        out.add(c);
        return out;
    }

    private static void addSlot(List<Integer> out, int generation, Thing t) {
        addTwo(out, generation);
        if (t == null) {
            out.add(0);
            return;
        }
        out.add(1 + (t.width != 0 ? 2 : 0) + (t.timer != 0 ? 4 : 0));
        addTwo(out, t.x);
        addTwo(out, t.y);
        out.add(t.vx + 128);
        out.add(t.vy + 128);
        if (t.width != 0) {
            out.add(t.width);
            out.add(t.height);
        }
        if (t.timer != 0) {
            addTwo(out, t.timer);
        }
    }

    private static void addTwo(List<Integer> out, int number) {
        out.add(number / 256);
        out.add(number % 256);
    }

    private static Model worldOf(List<Integer> bytes) {
        Model model = new Model();
        Iterator<Integer> in = bytes.iterator();
        try {
            model.readWorld(in);
        } catch (java.util.NoSuchElementException | IllegalArgumentException e) {
            throw new IllegalStateException();
        }
        if (!model.bytesOfWorld().equals(bytes)) {
            throw new IllegalStateException();
        }
        return model;
    }

    private void readWorld(Iterator<Integer> in) {
        in.next();
        clock = (long) two(in) << 16 | two(in);
        need(clock < 1L << 31);
        for (int slot = 0; slot < 16; slot++) {
            generation[slot] = two(in);
            int kind = in.next();
            if (kind != 0) {
                things.put(slot, readThing(in, kind));
            }
        }
        int count = in.next();
        for (int i = 0; i < count; i++) {
            int pair = in.next();
            need(pair / 16 < pair % 16 && things.containsKey(pair / 16) && things.containsKey(pair % 16));
            touching.add(pair);
        }
    }

    private static Thing readThing(Iterator<Integer> in, int kind) {
        Thing t = new Thing();
        t.x = two(in);
        t.y = two(in);
        t.vx = in.next() - 128;
        t.vy = in.next() - 128;
        need(in(t.x, 0, 4095) && in(t.y, 0, 4095) && in(t.vx, -100, 100) && in(t.vy, -100, 100));
        if ((kind & 2) != 0) {
            t.width = in.next();
            t.height = in.next();
            need(in(t.width, 1, 200) && in(t.height, 1, 200));
        }
        if ((kind & 4) != 0) {
            t.timer = two(in);
            need(in(t.timer, 1, 60000));
        }
        return t;
    }

    private static int two(Iterator<Integer> in) {
        int high = in.next();
        return high * 256 + in.next();
    }

    private void become(Model other) {
        System.arraycopy(other.generation, 0, generation, 0, 16);
        things.clear();
        things.putAll(other.things);
        touching.clear();
        touching.addAll(other.touching);
        events.clear();
        clock = other.clock;
    }

    /** Makes the first entry's call; answers its length, or 0 when it can not be. */
    private int redo(List<Integer> entries) {
        try {
            switch (entries.get(0)) {
                case 1:
                    create(number(entries, 1, 2), number(entries, 3, 2));
                    return 5;
                case 2:
                    destroy(number(entries, 1, 3));
                    return 4;
                case 3:
                    speed(number(entries, 1, 3), number(entries, 4, 1) - 128, number(entries, 5, 1) - 128);
                    return 6;
                case 4:
                    shape(number(entries, 1, 3), number(entries, 4, 1), number(entries, 5, 1));
                    return 6;
                case 5:
                    timer(number(entries, 1, 3), number(entries, 4, 2));
                    return 6;
                case 6:
                    tick(1);
                    return 1;
                default:
                    return 0;
            }
        } catch (IndexOutOfBoundsException | IllegalArgumentException | IllegalStateException e) {
            return 0;
        }
    }

    private static int number(List<Integer> entries, int from, int length) {
        int number = 0;
        for (int b : entries.subList(from, from + length)) {
            number = number * 256 + b;
        }
        return number;
    }
}
