import java.util.List;

/** The sentences of promises 1 to 19 that name a boundary, but for promise 16: see ReplayEdgesTest. */
public final class CallsEdgesTest {
    private static final int MAX = Integer.MAX_VALUE;
    private static final int MIN = Integer.MIN_VALUE;

    public static void main(String[] args) {
        newObject();
        createInTheLowestEmptySlot();
        createAtRest();
        createRefuses();
        destroyGoes();
        destroyRefuses();
        speedOfAThing();
        speedRefuses();
        shapeOfAThing();
        shapeRefuses();
        timerOfAThing();
        timerRefuses();
        tickAnswers();
        tickRefuses();
        eventOfTheLastTick();
        noEvents();
        eventRefuses();
        good();
        about();
        aboutRefuses();
        handleOf();
        handleOfRefuses();
        under();
        underRefuses();
        clock();
        save();
        load();
        loadRefuses();
        size();
        at();
        atRefuses();
        corrupt();
        corruptRefuses();
        Due.end();
    }

    /** The part of a sentence that says "UnsupportedOperationException as said", for the entry of one kind. */
    private static void needsRoom(int kind) {
        int length = Entries.LENGTHS[kind];
        TickArena just = Entries.twoThings();
        Due.leaveRoom(just, length);
        Entries.change(just, kind);
        Due.is("size of the log behind the last entry that fits", just.size(true), 400);
        TickArena less = Entries.twoThings();
        Due.leaveRoom(less, length - 1);
        Due.refusesForRoom("a call with one byte too little room", () -> Entries.change(less, kind));
        Due.is("size of the log behind it", less.size(true), 401 - length);
    }

    private static TickArena filled(int things) {
        TickArena a = new TickArena();
        for (int i = 0; i < things; i++) {
            a.create(100, 200);
        }
        return a;
    }

    private static void newObject() {
        Due.sentence("Empty slots of generation 0, clock 0; the saved state is that of this world.");
        TickArena a = new TickArena();
        String empty = "clock 0" + " | -1".repeat(16);
        Due.is("the world", Due.world(a), empty);
        Due.is("size(true)", a.size(true), 0);
        Due.is("the state", Due.bytes(a, false), new State().bytes());
        Due.is("events", Due.events(a), Due.list());
        Due.is("save of a new object", a.save(), 56);
        Due.is("the state saved anew", Due.bytes(a, false), new State().bytes());
        TickArena loaded = filled(16);
        loaded.tick(50);
        loaded.load();
        Due.is("the world behind a load", Due.world(loaded), empty);
        TickArena replayed = new TickArena();
        Due.is("replay of a new object", replayed.replay(), TickArena.NONE);
        Due.is("the world behind a replay", Due.world(replayed), empty);
        for (int slot = 0; slot <= 15; slot++) {
            Due.is("the handle in generation 0", replayed.create(1, 1), slot);
        }
    }

    private static void createInTheLowestEmptySlot() {
        Due.sentence("A new thing at a place, at rest, without shape and timer, in the lowest empty slot;"
                + " answers its handle.");
        int[][] rows = {{0, 15, 0}, {15, 0, 0}, {14, 15, 14}, {15, 14, 14}, {7, 8, 7}, {1, 0, 0}};
        for (int[] row : rows) {
            TickArena a = filled(16);
            a.destroy(row[0]);
            a.destroy(row[1]);
            Due.is("create with two empty slots", a.create(1, 1), row[2] + 16);
            Due.is("create with one empty slot", a.create(1, 1), row[0] + row[1] - row[2] + 16);
            Due.refusesState("create without an empty slot", () -> a.create(1, 1));
        }
    }

    private static void createAtRest() {
        Due.sentence("A new thing at a place, at rest, without shape and timer, in the lowest empty slot;"
                + " answers its handle.");
        TickArena a = new TickArena();
        a.create(1, 1);
        a.speed(0, 100, -100);
        a.shape(0, 200, 200);
        a.timer(0, 60000);
        a.destroy(0);
        Due.is("create", a.create(4095, 0), 16);
        int[] due = {4095, 0, 0, 0, 0, 0, 0};
        for (int what = 0; what <= 6; what++) {
            Due.is("about(16, " + what + ") in a slot used before", a.about(16, what), due[what]);
        }
        a.tick(50);
        Due.is("x of a thing at rest", a.about(16, 0), 4095);
        Due.is("y of a thing at rest", a.about(16, 1), 0);
    }

    private static void createRefuses() {
        Due.sentence("IllegalArgumentException when x or y is not 0 .. 4095; IllegalStateException when no slot is empty;"
                + " UnsupportedOperationException as said.");
        int[][] right = {{0, 0}, {4095, 4095}, {0, 4095}, {4095, 0}};
        for (int[] p : right) {
            TickArena a = new TickArena();
            Due.is("create(" + p[0] + ", " + p[1] + ")", a.create(p[0], p[1]), 0);
            Due.is("x", a.about(0, 0), p[0]);
            Due.is("y", a.about(0, 1), p[1]);
        }
        int[] wrong = {-1, 4096, MIN, MAX};
        for (int p : wrong) {
            TickArena a = new TickArena();
            Due.refusesArgument("create(" + p + ", 0)", () -> a.create(p, 0));
            Due.refusesArgument("create(0, " + p + ")", () -> a.create(0, p));
            Due.refusesArgument("create(" + p + ", " + p + ")", () -> a.create(p, p));
        }
        Due.is("create of the 16th thing", filled(15).create(1, 1), 15);
        TickArena full = filled(16);
        Due.refusesState("create of a 17th thing", () -> full.create(1, 1));
        needsRoom(1);
    }

    private static void destroyGoes() {
        Due.sentence("A thing goes.");
        int[] slots = {0, 7, 15};
        for (int slot : slots) {
            TickArena a = filled(16);
            a.destroy(slot);
            for (int i = 0; i <= 15; i++) {
                Due.is("good(" + i + ") behind destroy(" + slot + ")", a.good(i), i != slot);
            }
            Due.is("handleOf(" + slot + ")", a.handleOf(slot), TickArena.NONE);
        }
    }

    private static final int[] NOT_GOOD = {1, 16, 17 + 16, 2, 15, -1, -15, 17 + (1 << 20), 17 + (1 << 24),
        MIN + 17, MIN, MAX};

    /** Slots 0 and 1 have things, of generation 0 and 1: 0 and 17 are the good handles. */
    private static TickArena twoThings() {
        TickArena a = filled(2);
        a.destroy(1);
        a.create(100, 200);
        return a;
    }

    private static void destroyRefuses() {
        Due.sentence("IllegalArgumentException when the handle is not good; UnsupportedOperationException as said.");
        TickArena a = twoThings();
        for (int handle : NOT_GOOD) {
            Due.refusesArgument("destroy(" + handle + ")", () -> a.destroy(handle));
        }
        Due.is("both are good still", a.good(0) && a.good(17), true);
        a.destroy(17);
        Due.refusesArgument("destroy(17) again", () -> a.destroy(17));
        Due.refusesArgument("destroy(33) of an empty slot", () -> a.destroy(33));
        a.destroy(0);
        needsRoom(2);
    }

    private static void speedOfAThing() {
        Due.sentence("A thing gets a speed.");
        int[][] rows = {{-100, 100}, {100, -100}, {0, 0}, {-1, 1}, {-100, -100}, {100, 100}};
        TickArena a = twoThings();
        for (int[] v : rows) {
            a.speed(17, v[0], v[1]);
            Due.is("vx", a.about(17, 2), v[0]);
            Due.is("vy", a.about(17, 3), v[1]);
            Due.is("vx and vy of the other", Math.abs(a.about(0, 2)) + Math.abs(a.about(0, 3)), 0);
        }
    }

    private static void speedRefuses() {
        Due.sentence("IllegalArgumentException when the handle is not good, or vx or vy not -100 .. 100;"
                + " UnsupportedOperationException as said.");
        TickArena a = twoThings();
        a.speed(17, -100, 100);
        int[] wrong = {-101, 101, MIN, MAX};
        for (int v : wrong) {
            Due.refusesArgument("speed(17, " + v + ", 0)", () -> a.speed(17, v, 0));
            Due.refusesArgument("speed(17, 0, " + v + ")", () -> a.speed(17, 0, v));
        }
        for (int handle : NOT_GOOD) {
            Due.refusesArgument("speed(" + handle + ", 0, 0)", () -> a.speed(handle, 0, 0));
        }
        Due.is("vx", a.about(17, 2), -100);
        Due.is("vy", a.about(17, 3), 100);
        needsRoom(3);
    }

    private static void shapeOfAThing() {
        Due.sentence("A thing gets a shape (none any more, when both are 0).");
        int[][] rows = {{1, 1}, {200, 200}, {1, 200}, {0, 0}, {200, 1}, {0, 0}};
        TickArena a = twoThings();
        for (int[] s : rows) {
            a.shape(17, s[0], s[1]);
            Due.is("half width", a.about(17, 4), s[0]);
            Due.is("half height", a.about(17, 5), s[1]);
            Due.is("under", a.under(100, 200), s[0] == 0 ? 0 : 2);
            Due.is("half width and height of the other", a.about(0, 4) + a.about(0, 5), 0);
        }
        a.shape(0, 0, 0);
        Due.is("none of a thing that had none", a.about(0, 4), 0);
    }

    private static void shapeRefuses() {
        Due.sentence("IllegalArgumentException when the handle is not good, or they are neither both 0 nor both 1 .. 200;"
                + " UnsupportedOperationException as said.");
        TickArena a = twoThings();
        a.shape(17, 1, 200);
        int[][] wrong = {{0, 1}, {1, 0}, {0, 200}, {200, 0}, {-1, 1}, {1, -1}, {201, 1}, {1, 201}, {201, 0}, {0, 201},
            {0, -1}, {-1, 0}, {-1, -1}, {201, 201}, {MIN, MIN}, {MAX, MAX}, {256, 256}, {257, 257}};
        for (int[] s : wrong) {
            Due.refusesArgument("shape(17, " + s[0] + ", " + s[1] + ")", () -> a.shape(17, s[0], s[1]));
        }
        for (int handle : NOT_GOOD) {
            Due.refusesArgument("shape(" + handle + ", 1, 1)", () -> a.shape(handle, 1, 1));
            Due.refusesArgument("shape(" + handle + ", 0, 0)", () -> a.shape(handle, 0, 0));
        }
        Due.is("half width", a.about(17, 4), 1);
        Due.is("half height", a.about(17, 5), 200);
        needsRoom(4);
    }

    private static void timerOfAThing() {
        Due.sentence("A thing gets a timer (none any more, when it is 0).");
        int[] rows = {1, 0, 60000, 59999, 0};
        TickArena a = twoThings();
        for (int n : rows) {
            a.timer(17, n);
            Due.is("timer", a.about(17, 6), n);
            Due.is("timer of the other", a.about(0, 6), 0);
        }
        a.tick(50);
        Due.is("a thing without a timer any more stays", a.good(17), true);
        a.timer(17, 1);
        a.timer(17, 2);
        a.tick(1);
        Due.is("a timer in place of another", a.about(17, 6), 1);
    }

    private static void timerRefuses() {
        Due.sentence("IllegalArgumentException when the handle is not good, or n not 0 .. 60000;"
                + " UnsupportedOperationException as said.");
        TickArena a = twoThings();
        a.timer(17, 60000);
        int[] wrong = {-1, 60001, 65536, 65537, MIN, MAX};
        for (int n : wrong) {
            Due.refusesArgument("timer(17, " + n + ")", () -> a.timer(17, n));
        }
        for (int handle : NOT_GOOD) {
            Due.refusesArgument("timer(" + handle + ", 1)", () -> a.timer(handle, 1));
            Due.refusesArgument("timer(" + handle + ", 0)", () -> a.timer(handle, 0));
        }
        Due.is("timer", a.about(17, 6), 60000);
        needsRoom(5);
    }

    /** So many things at one place, with shapes. */
    private static TickArena heap(int things) {
        TickArena a = filled(things);
        for (int i = 0; i < things; i++) {
            a.shape(i, 1, 1);
        }
        return a;
    }

    private static void tickAnswers() {
        Due.sentence("So many ticks; answers how many events the last one made.");
        for (int things = 0; things <= 16; things++) {
            TickArena a = heap(things);
            int pairs = things * (things - 1) / 2;
            Due.is("tick(1) of a heap of " + things, a.tick(1), pairs);
            Due.is("tick(50) of a heap of " + things, a.tick(50), pairs);
            Due.is("clock", a.clock(), 51);
        }
        TickArena b = heap(2);
        b.speed(1, 2, 0);
        Due.is("tick(1): apart from the first tick on", b.tick(1), 0);
        TickArena c = heap(2);
        c.tick(1);
        c.speed(1, 2, 0);
        Due.is("tick(1): the end", c.tick(1), 1);
        Due.is("tick(2): the end was before", c.tick(2), 0);
    }

    private static void tickRefuses() {
        Due.sentence("IllegalArgumentException when n is not 1 .. 50; UnsupportedOperationException as said.");
        TickArena a = new TickArena();
        int[] wrong = {0, -1, 51, MIN, MAX};
        for (int n : wrong) {
            Due.refusesArgument("tick(" + n + ")", () -> a.tick(n));
        }
        Due.is("clock", a.clock(), 0);
        a.tick(1);
        Due.is("clock", a.clock(), 1);
        a.tick(50);
        Due.is("clock", a.clock(), 51);
        a.tick(2);
        a.tick(49);
        Due.is("clock", a.clock(), 102);
        Due.is("size of the log", a.size(true), 102);
        needsRoom(6);
        Due.leaveRoom(a, 49);
        Due.refusesForRoom("tick(50) with room for 49", () -> a.tick(50));
        Due.is("clock", a.clock(), 351);
        a.tick(49);
        Due.is("clock", a.clock(), 400);
    }

    private static final String EVENT = "Of event k (from 0) of the last tick (there are none behind a save, a load, and a"
            + " replay that answers NONE): what = 0 its kind, 1 the slot a, 2 the slot b.";

    private static void eventOfTheLastTick() {
        Due.sentence(EVENT);
        TickArena a = heap(16);
        a.tick(1);
        int[][] rows = {{0, 0, 1}, {14, 0, 15}, {15, 1, 2}, {118, 13, 15}, {119, 14, 15}};
        for (int[] row : rows) {
            Due.is("kind of event " + row[0], a.event(row[0], 0), 0);
            Due.is("a of event " + row[0], a.event(row[0], 1), row[1]);
            Due.is("b of event " + row[0], a.event(row[0], 2), row[2]);
        }
        a.tick(1);
        Due.is("kind of the last event", a.event(119, 0), 1);
        a.shape(15, 0, 0);
        a.tick(1);
        Due.is("kind of the last event", a.event(119, 0), 2);
        a.tick(1);
        Due.refusesIndex("event 105 of 105", () -> a.event(105, 0));
        Due.is("kind of event 104 of 105", a.event(104, 0), 1);
    }

    private static TickArena oneEvent() {
        TickArena a = heap(2);
        a.save();
        Due.is("tick", a.tick(1), 1);
        return a;
    }

    private static void noEvents() {
        Due.sentence(EVENT);
        List<Integer> one = Due.list(0, 0, 1);
        TickArena saved = oneEvent();
        saved.save();
        Due.refusesIndex("event behind a save", () -> saved.event(0, 0));
        saved.tick(1);
        Due.is("event behind a save and a tick", Due.events(saved), Due.list(1, 0, 1));
        TickArena loaded = oneEvent();
        loaded.load();
        Due.refusesIndex("event behind a load", () -> loaded.event(0, 0));
        loaded.tick(1);
        Due.is("event behind a load and a tick", Due.events(loaded), one);
        loaded.load();
        loaded.load();
        Due.refusesIndex("event behind two loads", () -> loaded.event(0, 0));
        TickArena replayed = oneEvent();
        Due.is("replay", replayed.replay(), TickArena.NONE);
        Due.refusesIndex("event behind a replay, whose last entry is a tick", () -> replayed.event(0, 0));
        replayed.tick(1);
        Due.is("event behind a replay and a tick", Due.events(replayed), Due.list(1, 0, 1));
        eventsThatStay(one);
    }

    private static void eventsThatStay(List<Integer> one) {
        TickArena a = oneEvent();
        a.corrupt(0, 7, true);
        Due.is("replay", a.replay(), 0);
        Due.is("events behind a replay that answers a place", Due.events(a), one);
        a.corrupt(0, 84 + 1, false);
        Due.refusesState("load", a::load);
        Due.is("events behind a load that throws", Due.events(a), one);
        Due.refusesState("replay", a::replay);
        Due.is("events behind a replay that throws", Due.events(a), one);
        Due.refusesArgument("tick", () -> a.tick(0));
        Due.is("events behind a tick that throws", Due.events(a), one);
        a.create(1, 1);
        a.speed(0, 9, 9);
        a.shape(0, 0, 0);
        a.timer(1, 1);
        a.destroy(0);
        Due.is("events of the last tick behind other calls", Due.events(a), one);
    }

    private static void eventRefuses() {
        Due.sentence("IndexOutOfBoundsException when there is no such event;"
                + " IllegalArgumentException when what is none of these.");
        TickArena none = new TickArena();
        Due.refusesIndex("event(0, 0) of a new object", () -> none.event(0, 0));
        none.tick(1);
        Due.refusesIndex("event(0, 0) behind a tick without any", () -> none.event(0, 0));
        int[] counts = {2, 3, 16};
        for (int things : counts) {
            TickArena a = heap(things);
            int last = a.tick(1) - 1;
            int[] wrongEvents = {-1, last + 1, MIN, MAX};
            for (int k : wrongEvents) {
                Due.refusesIndex("event(" + k + ", 0)", () -> a.event(k, 0));
                Due.refusesIndex("event(" + k + ", 3)", () -> a.event(k, 3));
            }
            int[] wrong = {-1, 3, MIN, MAX};
            for (int what : wrong) {
                Due.refusesArgument("event(0, " + what + ")", () -> a.event(0, what));
                Due.refusesArgument("event(last, " + what + ")", () -> a.event(last, what));
            }
            Due.is("event(0, 0)", a.event(0, 0), 0);
            Due.is("event(last, 2)", a.event(last, 2), things - 1);
        }
    }

    private static void good() {
        Due.sentence("Whether a handle is good.");
        TickArena a = twoThings();
        Due.is("good(0)", a.good(0), true);
        Due.is("good(17)", a.good(17), true);
        for (int handle : NOT_GOOD) {
            Due.is("good(" + handle + ")", a.good(handle), false);
        }
        TickArena full = filled(16);
        Due.is("good(15)", full.good(15), true);
        Due.is("good(16)", full.good(16), false);
        Due.is("good(-1)", full.good(-1), false);
        Due.is("good(-16)", full.good(-16), false);
    }

    private static void about() {
        Due.sentence("Of a thing: what = 0 x, 1 y, 2 vx, 3 vy, 4 half width, 5 half height, 6 timer (0 without).");
        TickArena a = filled(16);
        int[][] rows = {{100, 200, 0, 0, 0, 0, 0}, {100, 200, -100, 100, 1, 200, 60000}, {100, 200, 100, -100, 200, 1, 1}};
        int[] slots = {7, 0, 15};
        for (int i = 0; i < rows.length; i++) {
            int[] row = rows[i];
            if (i > 0) {
                a.speed(slots[i], row[2], row[3]);
                a.shape(slots[i], row[4], row[5]);
                a.timer(slots[i], row[6]);
            }
            for (int what = 0; what <= 6; what++) {
                Due.is("about(" + slots[i] + ", " + what + ")", a.about(slots[i], what), row[what]);
            }
        }
    }

    private static void aboutRefuses() {
        Due.sentence("IllegalArgumentException when the handle is not good;"
                + " IndexOutOfBoundsException when what is none of these.");
        TickArena a = twoThings();
        int[] wrong = {-1, 7, MIN, MAX};
        for (int what : wrong) {
            Due.refusesIndex("about(17, " + what + ")", () -> a.about(17, what));
            Due.refusesIndex("about(0, " + what + ")", () -> a.about(0, what));
        }
        for (int handle : NOT_GOOD) {
            Due.refusesArgument("about(" + handle + ", 0)", () -> a.about(handle, 0));
            Due.refusesArgument("about(" + handle + ", 6)", () -> a.about(handle, 6));
            Due.refusesArgument("about(" + handle + ", 7)", () -> a.about(handle, 7));
        }
    }

    private static void handleOf() {
        Due.sentence("The handle of the thing in a slot; NONE when it is empty.");
        TickArena a = filled(15);
        Due.is("handleOf(0)", a.handleOf(0), 0);
        Due.is("handleOf(14)", a.handleOf(14), 14);
        Due.is("handleOf(15)", a.handleOf(15), TickArena.NONE);
        a.create(1, 1);
        Due.is("handleOf(15)", a.handleOf(15), 15);
        a.destroy(0);
        Due.is("handleOf(0)", a.handleOf(0), TickArena.NONE);
        a.create(1, 1);
        Due.is("handleOf(0)", a.handleOf(0), 16);
    }

    private static void handleOfRefuses() {
        Due.sentence("IndexOutOfBoundsException when there is no such slot.");
        TickArena[] arenas = {new TickArena(), filled(16)};
        int[] wrong = {-1, 16, 17, MIN, MAX};
        for (TickArena a : arenas) {
            for (int slot : wrong) {
                Due.refusesIndex("handleOf(" + slot + ")", () -> a.handleOf(slot));
            }
        }
    }

    private static void under() {
        Due.sentence("The slots whose things cover a point, as the sum of 2^slot.");
        TickArena a = heap(16);
        Due.is("under all", a.under(100, 200), 65535);
        Due.is("under none", a.under(101, 200), 0);
        int sum = 65535;
        int[] slots = {0, 15, 7};
        for (int slot : slots) {
            sum -= 1 << slot;
            a.destroy(slot);
            Due.is("under all but some", a.under(100, 200), sum);
        }
        Due.is("under nothing at all", new TickArena().under(0, 0), 0);
        TickArena b = heap(16);
        for (int slot = 0; slot <= 15; slot++) {
            b.shape(slot, slot + 1, 1);
        }
        for (int distance = 0; distance <= 16; distance++) {
            Due.is("under at a distance of " + distance, b.under(100 + distance, 200), 65536 - (1 << distance));
        }
    }

    private static void underRefuses() {
        Due.sentence("IllegalArgumentException when x or y is not 0 .. 4095.");
        TickArena a = new TickArena();
        a.create(0, 0);
        a.create(4095, 4095);
        a.create(0, 4095);
        a.create(4095, 0);
        for (int slot = 0; slot <= 3; slot++) {
            a.shape(slot, 200, 200);
        }
        Due.is("under(0, 0)", a.under(0, 0), 1);
        Due.is("under(4095, 4095)", a.under(4095, 4095), 2);
        Due.is("under(0, 4095)", a.under(0, 4095), 4);
        Due.is("under(4095, 0)", a.under(4095, 0), 8);
        int[] wrong = {-1, 4096, MIN, MAX};
        for (int p : wrong) {
            Due.refusesArgument("under(" + p + ", 0)", () -> a.under(p, 0));
            Due.refusesArgument("under(0, " + p + ")", () -> a.under(0, p));
            Due.refusesArgument("under(" + p + ", " + p + ")", () -> a.under(p, p));
        }
    }

    private static void clock() {
        Due.sentence("The clock.");
        TickArena a = new TickArena();
        Due.is("clock", a.clock(), 0);
        a.tick(1);
        Due.is("clock", a.clock(), 1);
        Due.refusesArgument("tick(51)", () -> a.tick(51));
        Due.is("clock behind a refused tick", a.clock(), 1);
        a.load();
        Due.is("clock behind a load", a.clock(), 0);
        TickArena last = new State().clock(127, 255, 255, 255).arena();
        last.load();
        Due.is("the last clock", last.clock(), MAX);
        last.tick(1);
        Due.is("the clock behind the last", last.clock(), MAX);
    }

    private static void save() {
        Due.sentence("Saves the world: the saved state is that of it; answers how many bytes.");
        Due.is("save of nothing", new TickArena().save(), 56);
        TickArena a = heap(16);
        a.save();
        for (int slot = 0; slot <= 15; slot++) {
            a.timer(slot, 60000);
        }
        a.tick(1);
        String before = Due.world(a);
        Due.is("save of all that there can be", a.save(), 336);
        Due.is("size(false)", a.size(false), 336);
        Due.is("the world stays", Due.world(a), before);
        TickArena b = heap(16);
        b.save();
        b.load();
        for (int slot = 0; slot <= 15; slot++) {
            b.destroy(slot);
        }
        Due.is("save of nothing any more", b.save(), 56);
        Due.is("the generations", Due.bytes(b, false).subList(5, 11), Due.list(0, 1, 0, 0, 1, 0));
        TickArena c = new TickArena();
        c.corrupt(0, 0, false);
        c.corrupt(55, 0, false);
        Due.is("save over a state that is not sound", c.save(), 56);
        Due.is("the state", Due.bytes(c, false), new State().bytes());
        c.load();
    }

    private static void load() {
        Due.sentence("The world becomes that of the saved state; IllegalStateException when that is not sound.");
        TickArena a = heap(16);
        a.save();
        for (int slot = 0; slot <= 15; slot++) {
            a.timer(slot, 60000);
        }
        a.tick(1);
        a.save();
        String before = Due.world(a);
        for (int slot = 0; slot <= 15; slot++) {
            a.destroy(slot);
        }
        a.tick(50);
        a.load();
        Due.is("the fullest world", Due.world(a), before);
        Due.is("its pairs stay", a.tick(1), 120);
        Due.is("kind of the last event", a.event(119, 0), 1);
        TickArena b = heap(16);
        b.tick(50);
        b.load();
        Due.is("the emptiest world", Due.world(b), "clock 0" + " | -1".repeat(16));
        b.load();
        Due.is("the same once more", Due.world(b), "clock 0" + " | -1".repeat(16));
        Due.is("save of it", b.save(), 56);
        Due.is("its state", Due.bytes(b, false), new State().bytes());
    }

    private static void loadRefuses() {
        Due.sentence("The world becomes that of the saved state; IllegalStateException when that is not sound.");
        TickArena a = new TickArena();
        a.tick(3);
        a.corrupt(4, 1, false);
        Due.refusesState("load of a clock that the check does not know", a::load);
        Due.is("clock", a.clock(), 3);
        Due.is("size of the log", a.size(true), 3);
        a.corrupt(4, 0, false);
        a.load();
        Due.is("clock", a.clock(), 0);
        Due.is("size of the log", a.size(true), 0);
    }

    private static void size() {
        Due.sentence("How many bytes the saved state has, or the log.");
        TickArena a = new TickArena();
        Due.is("size(false) at first", a.size(false), 56);
        Due.is("size(true) at first", a.size(true), 0);
        a.create(1, 1);
        Due.is("size(false) before a save", a.size(false), 56);
        Due.is("size(true) behind a create", a.size(true), 5);
        Due.leaveRoom(a, 1);
        Due.is("size(true)", a.size(true), 399);
        a.tick(1);
        Due.is("size(true) of a full log", a.size(true), 400);
        Due.is("save", a.save(), 62);
        Due.is("size(false)", a.size(false), 62);
        Due.is("size(true) behind a save", a.size(true), 0);
        a.destroy(0);
        Due.is("size(false) before the next save", a.size(false), 62);
        a.save();
        Due.is("size(false)", a.size(false), 56);
    }

    private static void at() {
        Due.sentence("Byte k of the saved state, or of the log.");
        TickArena a = new TickArena();
        a.create(0x102, 0x304);
        Due.is("at(0, false)", a.at(0, false), 84);
        Due.is("at(55, false)", a.at(55, false), 85);
        int[] log = {1, 1, 2, 3, 4};
        for (int k = 0; k < 5; k++) {
            Due.is("at(" + k + ", true)", a.at(k, true), log[k]);
        }
        a.save();
        Due.is("at(8, false)", a.at(8, false), 1);
        Due.is("at(11, false)", a.at(11, false), 4);
        TickArena full = new TickArena();
        Due.leaveRoom(full, 0);
        Due.is("at(399, true)", full.at(399, true), 6);
    }

    private static void atRefuses() {
        Due.sentence("IndexOutOfBoundsException when there is none.");
        TickArena a = new TickArena();
        Due.refusesIndex("at(0, true) of an empty log", () -> a.at(0, true));
        Due.refusesIndex("at(-1, true) of an empty log", () -> a.at(-1, true));
        a.tick(3);
        int[][] rows = {{-1, -1}, {3, 56}, {MIN, MIN}, {MAX, MAX}};
        for (int[] row : rows) {
            Due.refusesIndex("at(" + row[0] + ", true)", () -> a.at(row[0], true));
            Due.refusesIndex("at(" + row[1] + ", false)", () -> a.at(row[1], false));
        }
        Due.is("at(2, true)", a.at(2, true), 6);
        Due.is("at(3, false)", a.at(3, false), 0);
        Due.leaveRoom(a, 0);
        Due.refusesIndex("at(400, true) of a full log", () -> a.at(400, true));
        a.load();
        Due.refusesIndex("at(0, true) behind a load", () -> a.at(0, true));
        TickArena shrunk = filled(1);
        shrunk.save();
        Due.refusesIndex("at(62, false)", () -> shrunk.at(62, false));
        int last = new State().slot(0, 0, 0, 1, 0, 100, 0, 200, 128, 128).bytes().get(61);
        Due.is("at(61, false)", shrunk.at(61, false), last);
        shrunk.destroy(0);
        shrunk.save();
        Due.refusesIndex("at(56, false) of a state that was longer", () -> shrunk.at(56, false));
    }

    private static void corrupt() {
        Due.sentence("Writes b over byte k of the saved state, or of the log.");
        int[] bytes = {0, 1, 254, 255};
        for (int b : bytes) {
            TickArena a = new TickArena();
            a.tick(3);
            int[][] places = {{0, 0}, {0, 55}, {1, 0}, {1, 2}};
            for (int[] place : places) {
                a.corrupt(place[1], b, place[0] == 1);
                Due.is("byte " + place[1], a.at(place[1], place[0] == 1), b);
            }
            Due.is("byte 1 of the state stays", a.at(1, false), 0);
            Due.is("byte 54 of the state stays", a.at(54, false), 72);
            Due.is("byte 1 of the log stays", a.at(1, true), 6);
            Due.is("size(false)", a.size(false), 56);
            Due.is("size(true)", a.size(true), 3);
            Due.is("the world stays", Due.world(a), "clock 3" + " | -1".repeat(16));
        }
        TickArena full = new TickArena();
        Due.leaveRoom(full, 0);
        full.corrupt(399, 255, true);
        Due.is("the last byte of a full log", full.at(399, true), 255);
    }

    private static void corruptRefuses() {
        Due.sentence("IndexOutOfBoundsException when there is none; IllegalArgumentException when b is not 0 .. 255.");
        TickArena a = new TickArena();
        Due.refusesIndex("corrupt(0, 0, true) of an empty log", () -> a.corrupt(0, 0, true));
        a.tick(3);
        int[][] rows = {{-1, -1}, {3, 56}, {MIN, MIN}, {MAX, MAX}};
        int[] some = {0, 255, -1, 256};
        for (int[] row : rows) {
            for (int b : some) {
                Due.refusesIndex("corrupt(" + row[0] + ", " + b + ", true)", () -> a.corrupt(row[0], b, true));
                Due.refusesIndex("corrupt(" + row[1] + ", " + b + ", false)", () -> a.corrupt(row[1], b, false));
            }
        }
        int[] wrong = {-1, 256, MIN, MAX};
        int[][] places = {{0, 0}, {0, 55}, {1, 0}, {1, 2}};
        for (int b : wrong) {
            for (int[] place : places) {
                Due.refusesArgument("corrupt(" + place[1] + ", " + b + ")", () -> a.corrupt(place[1], b, place[0] == 1));
            }
        }
        Due.is("the log stays", Due.bytes(a, true), Due.list(6, 6, 6));
        Due.is("the state stays", Due.bytes(a, false), new State().bytes());
    }
}
