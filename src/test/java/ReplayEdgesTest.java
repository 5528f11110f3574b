import java.util.Arrays;

/** The sentences of promise 16 that name a boundary: which entries can be, and what stays when one can not. */
public final class ReplayEdgesTest {
    private static final int FULL = 400;
    private static final int TICK = 6;
    private static final int[] LENGTHS = {0, 5, 4, 6, 6, 6};

    private static final String ALL = "Makes, from the saved state, all that the log says, entry by entry, as calls would;"
            + " if all of it can be, the world is that from now on (the log stays), and it answers NONE";
    private static final String PLACE = "otherwise it answers the place in the log of the first entry that can not be"
            + " (one cut off, of no kind, or that a call would refuse), and the world stays";

    public static void main(String[] args) {
        emptyLog();
        fullLog();
        asCallsWould();
        theLogStays();
        ofNoKind();
        cutOff();
        cutOffAtTheEndOfAFullLog();
        places();
        handles();
        speeds();
        shapes();
        timers();
        withoutASlot();
        refusedBecauseOfEntriesBefore();
        generationGoesRound();
        theFirstOfSeveral();
        theWorldStays();
        unsoundState();
        Due.end();
    }

    /** Slot 0 has a thing of generation 0, slot 1 one of generation 65535; the clock is 3. */
    private static TickArena start() {
        TickArena a = new State().clock(0, 0, 0, 3).slot(0, State.full())
                .slot(1, State.with(State.full(), 0, 255, 255)).pairs(1, 0x01).arena();
        a.load();
        for (int slot = 0; slot <= 1; slot++) {
            a.timer(a.handleOf(slot), 1000);
        }
        a.save();
        return a;
    }

    private static TickArena withLog(int... log) {
        TickArena a = start();
        Due.writeLog(a, log);
        return a;
    }

    private static int[] join(int[]... rows) {
        int[] all = new int[0];
        for (int[] row : rows) {
            int from = all.length;
            all = Arrays.copyOf(all, from + row.length);
            System.arraycopy(row, 0, all, from, row.length);
        }
        return all;
    }

    private static int[] ticks(int n) {
        int[] ticks = new int[n];
        Arrays.fill(ticks, TICK);
        return ticks;
    }

    /** The entry can be, as the only one and among others. */
    private static TickArena can(int... entry) {
        String what = "replay of " + Due.list(entry);
        TickArena among = withLog(join(ticks(7), entry, ticks(2)));
        Due.is(what + " among others", among.replay(), TickArena.NONE);
        Due.is("clock", among.clock(), 12);
        TickArena alone = withLog(entry);
        Due.is(what, alone.replay(), TickArena.NONE);
        Due.is("clock", alone.clock(), 3);
        return alone;
    }

    /** The entry can not be, wherever it stands. */
    private static void canNot(int... entry) {
        int[] before = {0, 1, 7};
        for (int n : before) {
            TickArena a = withLog(join(ticks(n), entry, ticks(2)));
            Due.is("replay of " + Due.list(entry) + " behind " + n + " ticks", a.replay(), n);
            Due.is("clock", a.clock(), 3 + n + entry.length + 2);
        }
    }

    private static void emptyLog() {
        Due.sentence(ALL);
        TickArena a = start();
        String saved = Due.world(a);
        Due.is("replay of an empty log", a.replay(), TickArena.NONE);
        Due.is("the world", Due.world(a), saved);
        Due.is("size of the log", a.size(true), 0);
        Due.is("replay once more", a.replay(), TickArena.NONE);
        Due.is("replay on a new object", new TickArena().replay(), TickArena.NONE);
        TickArena other = new State().clock(0, 0, 1, 0).slot(15, State.full()).arena();
        other.load();
        other.save();
        Due.write(other, 3, 2, 0);
        Due.is("replay from a state that is not that of the world", other.replay(), TickArena.NONE);
        Due.is("clock", other.clock(), 512);
    }

    private static void fullLog() {
        Due.sentence(ALL);
        int[] lengths = {1, FULL - 1, FULL};
        for (int length : lengths) {
            TickArena a = withLog(ticks(length));
            Due.is("replay of " + length + " ticks", a.replay(), TickArena.NONE);
            Due.is("clock", a.clock(), 3 + length);
            Due.is("timer", a.about(0, 6), 1000 - length);
            Due.is("size of the log", a.size(true), length);
        }
        for (int kind = 1; kind <= 5; kind++) {
            int[] entry = someEntry(kind);
            TickArena a = withLog(join(ticks(FULL - entry.length), entry));
            Due.is("replay with a last entry of kind " + kind, a.replay(), TickArena.NONE);
            Due.is("clock", a.clock(), 3 + FULL - entry.length);
        }
    }

    /** One that can be at the start. */
    private static int[] someEntry(int kind) {
        int[][] entries = {{}, {1, 0, 9, 0, 9}, {2, 0, 0, 0}, {3, 0, 0, 0, 129, 127}, {4, 0, 0, 0, 5, 5},
            {5, 0, 0, 0, 3, 0}};
        return entries[kind];
    }

    private static void asCallsWould() {
        Due.sentence(ALL);
        TickArena called = start();
        called.speed(0, -100, 100);
        called.create(4095, 4095);
        called.tick(2);
        called.shape(2, 200, 200);
        called.timer(2, 3);
        called.destroy(1048561);
        called.create(0, 0);
        called.tick(3);
        called.create(1, 1);
        called.shape(0, 0, 0);
        called.timer(0, 0);
        TickArena replayed = start();
        int[] log = {3, 0, 0, 0, 28, 228, 1, 15, 255, 15, 255, 6, 6, 4, 0, 0, 2, 200, 200, 5, 0, 0, 2, 0, 3,
            2, 15, 255, 241, 1, 0, 0, 0, 0, 6, 6, 6, 1, 0, 1, 0, 1, 4, 0, 0, 0, 0, 0, 5, 0, 0, 0, 0, 0};
        Due.is("the log of the calls", Due.bytes(called, true), Due.list(log));
        Due.writeLog(replayed, log);
        Due.is("replay", replayed.replay(), TickArena.NONE);
        Due.is("the world", Due.world(replayed), Due.world(called));
        Due.is("its state", Due.savedAnew(replayed), Due.savedAnew(called));
    }

    private static void theLogStays() {
        Due.sentence(ALL);
        TickArena a = withLog(6, 6, 1, 0, 9, 0, 9);
        Due.is("replay", a.replay(), TickArena.NONE);
        Due.is("the log", Due.bytes(a, true), Due.list(6, 6, 1, 0, 9, 0, 9));
        a.destroy(2);
        Due.is("the log goes on", Due.bytes(a, true), Due.list(6, 6, 1, 0, 9, 0, 9, 2, 0, 0, 2));
        Due.is("replay", a.replay(), TickArena.NONE);
        Due.is("clock", a.clock(), 5);
        Due.is("handleOf(2)", a.handleOf(2), TickArena.NONE);
        TickArena full = withLog(ticks(FULL));
        Due.is("replay", full.replay(), TickArena.NONE);
        Due.refusesForRoom("tick behind the replay of a full log", () -> full.tick(1));
        TickArena left = withLog(ticks(FULL - 1));
        Due.is("replay", left.replay(), TickArena.NONE);
        left.tick(1);
        Due.is("clock", left.clock(), 3 + FULL);
    }

    private static void ofNoKind() {
        Due.sentence(PLACE);
        for (int kind = 0; kind < 256; kind++) {
            if (kind < 1 || kind > 6) {
                canNot(kind);
            }
        }
        for (int kind = 1; kind <= 5; kind++) {
            can(someEntry(kind));
        }
        int[] last = ticks(FULL);
        last[FULL - 1] = 7;
        TickArena a = withLog(last);
        Due.is("replay with the last byte of no kind", a.replay(), FULL - 1);
        last[FULL - 1] = 0;
        TickArena b = withLog(last);
        Due.is("replay with the last byte 0", b.replay(), FULL - 1);
    }

    private static void cutOff() {
        Due.sentence(PLACE);
        int[] before = {0, 1, 20};
        for (int kind = 1; kind <= 5; kind++) {
            for (int n : before) {
                for (int have = 1; have <= LENGTHS[kind]; have++) {
                    TickArena a = withLog(join(ticks(n), Arrays.copyOf(someEntry(kind), have)));
                    int due = have == LENGTHS[kind] ? TickArena.NONE : n;
                    Due.is("replay of " + n + " ticks and " + have + " bytes of kind " + kind, a.replay(), due);
                    Due.is("clock", a.clock(), 3 + n + (due == TickArena.NONE ? 0 : have));
                }
            }
        }
        zerosAndOnesCutOff();
    }

    /** What is missing counts neither as 0 nor as what stood in the log before. */
    private static void zerosAndOnesCutOff() {
        for (int kind = 1; kind <= 5; kind++) {
            int[] entry = someEntry(kind);
            TickArena a = withLog(join(entry, ticks(3)));
            a.load();
            a.tick(entry.length - 1);
            for (int k = 0; k < entry.length - 1; k++) {
                a.corrupt(k, entry[k], true);
            }
            Due.is("replay of an entry of kind " + kind + " that a longer log had whole", a.replay(), 0);
        }
    }

    private static void cutOffAtTheEndOfAFullLog() {
        Due.sentence(PLACE);
        for (int kind = 1; kind <= 5; kind++) {
            int[] entry = someEntry(kind);
            for (int have = 1; have < entry.length; have++) {
                TickArena a = withLog(join(ticks(FULL - have), Arrays.copyOf(entry, have)));
                Due.is("replay of " + have + " last bytes of kind " + kind, a.replay(), FULL - have);
                Due.is("clock", a.clock(), 3 + FULL);
            }
        }
    }

    private static void places() {
        Due.sentence(PLACE);
        can(1, 0, 0, 0, 0);
        TickArena a = can(1, 15, 255, 15, 255);
        Due.is("x", a.about(2, 0), 4095);
        Due.is("y", a.about(2, 1), 4095);
        canNot(1, 16, 0, 0, 0);
        canNot(1, 0, 0, 16, 0);
        canNot(1, 255, 255, 0, 0);
        canNot(1, 0, 0, 255, 255);
        canNot(1, 128, 0, 128, 0);
    }

    /** Three bytes of a handle, for each kind of entry that has one. */
    private static void handles() {
        Due.sentence(PLACE);
        int[][] good = {{0, 0, 0}, {15, 255, 241}};
        int[][] stale = {{0, 0, 1}, {0, 0, 16}, {0, 0, 17}, {0, 0, 2}, {0, 0, 15}, {15, 255, 225}, {15, 255, 240},
            {15, 255, 242}, {16, 0, 0}, {16, 0, 1}, {31, 255, 241}, {255, 255, 241}, {255, 255, 255},
            {1, 0, 0}, {128, 0, 0}};
        for (int kind = 2; kind <= 5; kind++) {
            for (int[] handle : good) {
                can(withHandle(kind, handle));
            }
            for (int[] handle : stale) {
                canNot(withHandle(kind, handle));
            }
        }
    }

    private static int[] withHandle(int kind, int[] handle) {
        return State.with(someEntry(kind), 1, handle);
    }

    private static void speeds() {
        Due.sentence(PLACE);
        int[][] right = {{28, 228}, {228, 28}, {128, 128}};
        for (int[] v : right) {
            TickArena a = can(3, 0, 0, 0, v[0], v[1]);
            Due.is("vx", a.about(0, 2), v[0] - 128);
            Due.is("vy", a.about(0, 3), v[1] - 128);
        }
        int[] wrong = {0, 27, 229, 255};
        for (int v : wrong) {
            canNot(3, 0, 0, 0, v, 128);
            canNot(3, 0, 0, 0, 128, v);
        }
    }

    private static void shapes() {
        Due.sentence(PLACE);
        int[][] right = {{0, 0}, {1, 1}, {200, 200}, {1, 200}, {200, 1}};
        for (int[] s : right) {
            TickArena a = can(4, 0, 0, 0, s[0], s[1]);
            Due.is("half width", a.about(0, 4), s[0]);
            Due.is("half height", a.about(0, 5), s[1]);
        }
        int[][] wrong = {{0, 1}, {1, 0}, {0, 200}, {200, 0}, {201, 1}, {1, 201}, {201, 0}, {0, 201}, {255, 255}};
        for (int[] s : wrong) {
            canNot(4, 0, 0, 0, s[0], s[1]);
        }
    }

    private static void timers() {
        Due.sentence(PLACE);
        int[][] right = {{0, 0, 0}, {1, 0, 256}, {0, 255, 255}, {234, 96, 60000}, {234, 95, 59999}};
        for (int[] t : right) {
            TickArena a = can(5, 0, 0, 0, t[0], t[1]);
            Due.is("timer", a.about(0, 6), t[2]);
        }
        int[][] wrong = {{234, 97}, {235, 0}, {255, 255}};
        for (int[] t : wrong) {
            canNot(5, 0, 0, 0, t[0], t[1]);
        }
    }

    private static int[] creates(int n) {
        int[] all = new int[0];
        for (int i = 0; i < n; i++) {
            all = join(all, someEntry(1));
        }
        return all;
    }

    private static void withoutASlot() {
        Due.sentence(PLACE);
        TickArena full = withLog(creates(14));
        Due.is("replay of 14 creates behind 2 things", full.replay(), TickArena.NONE);
        Due.is("handleOf(15)", full.handleOf(15), 15);
        TickArena over = withLog(creates(15));
        Due.is("replay of 15 creates behind 2 things", over.replay(), 70);
        TickArena freed = withLog(join(creates(14), someEntry(2), creates(1)));
        Due.is("replay of a create behind a destroy", freed.replay(), TickArena.NONE);
        Due.is("handleOf(0)", freed.handleOf(0), 16);
        TickArena again = withLog(join(creates(14), someEntry(2), creates(2)));
        Due.is("replay of two creates behind a destroy", again.replay(), 79);
    }

    private static void refusedBecauseOfEntriesBefore() {
        Due.sentence(PLACE);
        TickArena twice = withLog(2, 0, 0, 0, 2, 0, 0, 0);
        Due.is("replay of two destroys", twice.replay(), 4);
        TickArena stale = withLog(2, 0, 0, 0, 1, 0, 9, 0, 9, 3, 0, 0, 0, 128, 128);
        Due.is("replay of a speed of a stale handle", stale.replay(), 9);
        TickArena fresh = withLog(2, 0, 0, 0, 1, 0, 9, 0, 9, 3, 0, 0, 16, 128, 128);
        Due.is("replay of a speed of the next generation", fresh.replay(), TickArena.NONE);
        TickArena gone = withLog(5, 0, 0, 0, 0, 1, 6, 2, 0, 0, 0);
        Due.is("replay of a destroy behind the end of a timer of 1", gone.replay(), 7);
        TickArena there = withLog(5, 0, 0, 0, 0, 2, 6, 2, 0, 0, 0);
        Due.is("replay of a destroy before the end of a timer of 2", there.replay(), TickArena.NONE);
    }

    private static void generationGoesRound() {
        Due.sentence(PLACE);
        TickArena round = withLog(2, 15, 255, 241, 1, 0, 9, 0, 9, 5, 0, 0, 1, 0, 8);
        Due.is("replay of a timer of generation 0", round.replay(), TickArena.NONE);
        Due.is("timer", round.about(1, 6), 8);
        TickArena over = withLog(2, 15, 255, 241, 1, 0, 9, 0, 9, 5, 16, 0, 1, 0, 8);
        Due.is("replay of a timer of generation 65536", over.replay(), 9);
    }

    private static void theFirstOfSeveral() {
        Due.sentence(PLACE);
        TickArena a = withLog(6, 1, 16, 0, 0, 0, 7, 2, 0, 0, 9, 3);
        Due.is("replay of many that can not be", a.replay(), 1);
        a.corrupt(2, 0, true);
        Due.is("replay without the first of them", a.replay(), 6);
        a.corrupt(6, 6, true);
        Due.is("replay without the second", a.replay(), 7);
        a.corrupt(10, 0, true);
        Due.is("replay without the third", a.replay(), 11);
        a.corrupt(11, 6, true);
        Due.is("replay without any", a.replay(), TickArena.NONE);
        Due.is("clock", a.clock(), 6);
        Due.is("handleOf(0)", a.handleOf(0), TickArena.NONE);
        Due.is("handleOf(2)", a.handleOf(2), 2);
    }

    /** The world has events and a touching pair that the one of state and log has not. */
    private static void theWorldStays() {
        Due.sentence(PLACE);
        Due.changesNothing("a replay that answers a place", () -> busy(7), a -> Due.is("replay", a.replay(), 29));
        Due.changesNothing("two such replays", () -> busy(0), a -> {
            Due.is("replay", a.replay(), 29);
            Due.is("replay", a.replay(), 29);
        });
        TickArena good = busy(6);
        Due.is("replay", good.replay(), TickArena.NONE);
        Due.is("clock", good.clock(), 3);
        Due.is("x", good.about(0, 0), 50);
        Due.is("no pair of that world touches", good.tick(1), 0);
    }

    private static TickArena busy(int last) {
        TickArena a = new TickArena();
        a.create(100, 100);
        a.create(100, 100);
        a.shape(0, 5, 5);
        a.shape(1, 5, 5);
        a.create(9, 9);
        Due.is("tick", a.tick(3), 1);
        a.corrupt(2, 50, true);
        a.corrupt(29, last, true);
        return a;
    }

    private static void unsoundState() {
        Due.sentence("IllegalStateException when the saved state is not sound.");
        int[][] logs = {{}, {6}, {7}, {6, 1, 0}};
        for (int[] log : logs) {
            Due.changesNothing("replay of " + Due.list(log) + " from an unsound state", IllegalStateException.class, () -> {
                TickArena a = withLog(log);
                a.corrupt(0, 83, false);
                return a;
            }, TickArena::replay);
        }
        TickArena mended = withLog(6, 6);
        mended.corrupt(0, 85, false);
        Due.refusesState("replay", mended::replay);
        mended.corrupt(0, 84, false);
        Due.is("replay from the mended state", mended.replay(), TickArena.NONE);
        Due.is("clock", mended.clock(), 5);
    }
}
