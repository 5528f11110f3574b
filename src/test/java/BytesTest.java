import java.util.List;

/** Promises 14 to 19: the saved state, the log, and the world made again from them. */
public final class BytesTest {
    public static void main(String[] args) {
        save();
        largestState();
        load();
        loadWipesTheWorldBefore();
        unsoundStates();
        soundThoughNeverSeen();
        pairsOfAState();
        stateOfAnotherLength();
        replay();
        replayMakesWhatCallsMade();
        replayOfNothing();
        replayRefuses();
        replayTakesTheEdges();
        replayCutOff();
        sizeAndAt();
        corrupt();
        Due.end();
    }

    /** Slot 0 with all, slot 1 with a shape, slot 2 empty again, slot 3 with a timer, slot 4 with neither. */
    private static TickArena smallWorld() {
        TickArena a = new TickArena();
        a.create(258, 300);
        a.create(250, 301);
        a.create(1, 1);
        a.create(4095, 0);
        a.create(0, 0);
        a.shape(0, 10, 20);
        a.shape(1, 200, 1);
        a.speed(0, -8, 1);
        a.timer(0, 60000);
        a.timer(3, 300);
        a.destroy(2);
        a.tick(1);
        return a;
    }

    private static final int[] SMALL_STATE = {
        84, 0, 0, 0, 1,
        0, 0, 7, 0, 250, 1, 45, 120, 129, 10, 20, 234, 95,
        0, 0, 3, 0, 250, 1, 45, 128, 128, 200, 1,
        0, 1, 0,
        0, 0, 5, 15, 255, 0, 0, 128, 128, 1, 43,
        0, 0, 1, 0, 0, 0, 0, 128, 128,
        0, 0, 0, 0, 0, 0, 0, 0, 0, 0, 0, 0, 0, 0, 0, 0, 0,
        0, 0, 0, 0, 0, 0, 0, 0, 0, 0, 0, 0, 0, 0, 0, 0,
        1, 1};

    private static List<Integer> withCheck(int[] state) {
        List<Integer> bytes = Due.list(state);
        bytes.addAll(Due.check(bytes));
        return bytes;
    }

    private static void save() {
        TickArena a = smallWorld();
        Due.is("the saved state before", a.size(false), 56);
        Due.is("save", a.save(), SMALL_STATE.length + 2);
        Due.is("the state", Due.bytes(a, false), withCheck(SMALL_STATE));
        Due.is("the log behind a save", a.size(true), 0);
        Due.is("the world stays", a.about(0, 0), 250);
        a.destroy(0);
        Due.is("the saved state stays", Due.bytes(a, false), withCheck(SMALL_STATE));
        Due.is("save without the pair and the thing", a.save(), SMALL_STATE.length + 2 - 11);
    }

    private static void largestState() {
        TickArena a = new TickArena();
        for (int slot = 0; slot < 16; slot++) {
            a.create(2000, 2000);
        }
        a.save();
        for (int slot = 0; slot < 16; slot++) {
            a.shape(slot, 200, 200);
            a.timer(slot, 60000);
        }
        a.tick(1);
        Due.is("save", a.save(), 336);
        Due.is("how many pairs", a.at(213, false), 120);
        Due.is("first pair", a.at(214, false), 1);
        Due.is("last pair", a.at(333, false), 14 * 16 + 15);
        a.load();
        Due.is("all pairs stay", a.tick(1), 120);
        Due.is("stay", a.event(119, 0), 1);
    }

    private static void load() {
        TickArena a = smallWorld();
        a.save();
        a.destroy(0);
        a.destroy(4);
        a.speed(1, 50, 50);
        a.tick(40);
        a.create(77, 77);
        a.load();
        Due.is("clock", a.clock(), 1);
        Due.is("the log behind a load", a.size(true), 0);
        int[] due = {250, 301, -8, 1, 10, 20, 59999};
        for (int what = 0; what < 7; what++) {
            Due.is("about(0, " + what + ")", a.about(0, what), due[what]);
        }
        Due.is("vx of 1", a.about(1, 2), 0);
        Due.is("handleOf(2)", a.handleOf(2), TickArena.NONE);
        Due.is("timer of 3", a.about(3, 6), 299);
        Due.is("half width of 3", a.about(3, 4), 0);
        Due.is("timer of 4", a.about(4, 6), 0);
        Due.is("generation of slot 2", a.create(1, 1), 18);
        a.tick(1);
        Due.is("the pair stays", Due.events(a), Due.list(1, 0, 1));
        a.load();
        a.save();
        Due.is("the state of a loaded world", Due.bytes(a, false), withCheck(SMALL_STATE));
    }

    /** The world that a load fills was used before: nothing of that may be left. */
    private static void loadWipesTheWorldBefore() {
        TickArena a = smallWorld();
        a.load();
        Due.is("clock of the world before all calls", a.clock(), 0);
        for (int slot = 0; slot < 16; slot++) {
            Due.is("handleOf(" + slot + ")", a.handleOf(slot), TickArena.NONE);
        }
        a.create(250, 250);
        a.create(250, 250);
        a.save();
        a.load();
        a.load();
        for (int what = 2; what < 7; what++) {
            Due.is("about(0, " + what + ")", a.about(0, what), 0);
        }
        a.shape(0, 5, 5);
        a.shape(1, 5, 5);
        a.tick(1);
        Due.is("begin", Due.events(a), Due.list(0, 0, 1));
        a.load();
        a.load();
        Due.is("no pair is left", a.tick(1), 0);
    }

    private static void unsoundStates() {
        int[][] rows = {
            {0, 83}, {0, 0}, {1, 128}, {1, 255},
            {7, 2}, {7, 4}, {7, 6}, {7, 8}, {7, 9}, {7, 15}, {7, 255}, {7, 0}, {7, 1}, {7, 3}, {7, 5},
            {8, 16}, {8, 128}, {10, 16}, {10, 255},
            {12, 27}, {12, 229}, {12, 0}, {13, 27}, {13, 229}, {13, 255},
            {14, 0}, {14, 201}, {15, 0}, {15, 201}, {15, 255},
            {16, 235}, {17, 97}, {31, 1},
            {85, 0}, {85, 2}, {85, 255}, {86, 0}, {86, 2}, {86, 16}, {86, 17}, {86, 5}, {86, 255}};
        for (int[] row : rows) {
            TickArena a = smallWorld();
            a.save();
            Due.write(a, row[0], row[1]);
            Due.refusesState("load with " + row[1] + " at " + row[0], a::load);
            Due.refusesState("replay with " + row[1] + " at " + row[0], a::replay);
            Due.is("the world stays", a.about(0, 0), 250);
        }
        timerOfNothing();
        clockBelowZero();
        lastSlot();
        checkThatDoesNotFit();
    }

    private static void timerOfNothing() {
        TickArena a = smallWorld();
        a.save();
        a.corrupt(16, 0, false);
        Due.write(a, 17, 0);
        Due.refusesState("load with a timer of 0", a::load);
        Due.write(a, 17, 1);
        a.load();
        Due.is("timer of 1", a.about(0, 6), 1);
    }

    private static void clockBelowZero() {
        TickArena a = new TickArena();
        Due.write(a, 1, 255, 255, 255, 255);
        Due.refusesState("load with a clock of -1", a::load);
    }

    /** Behind the last slot nothing is out of step any more: its own numbers must be looked at. */
    private static void lastSlot() {
        TickArena a = new TickArena();
        for (int slot = 0; slot < 16; slot++) {
            a.create(0, 0);
        }
        a.save();
        int place = 5 + 15 * 9 + 3;
        int[][] rows = {{place, 16, 0}, {place + 5, 229, 128}};
        for (int[] row : rows) {
            a.corrupt(row[0], row[1], false);
            Due.seal(a);
            Due.refusesState("load with " + row[1] + " at " + row[0], a::load);
            a.corrupt(row[0], row[2], false);
        }
        Due.seal(a);
        a.load();
        Due.is("good(15)", a.good(15), true);
    }

    private static void checkThatDoesNotFit() {
        TickArena a = smallWorld();
        int size = a.save();
        for (int k = size - 2; k < size; k++) {
            int b = a.at(k, false);
            a.corrupt(k, (b + 1) % 251, false);
            Due.refusesState("load with another check at " + k, a::load);
            a.corrupt(k, b, false);
            a.load();
        }
        a.corrupt(5, 1, false);
        Due.refusesState("load with a generation that the check does not know", a::load);
        // With a clock of 166 the check's c is 0: 251 leaves the same rest, but is another byte.
        TickArena b = new TickArena();
        Due.write(b, 4, 166);
        Due.is("the check's c", b.at(55, false), 0);
        b.load();
        b.corrupt(55, 251, false);
        Due.refusesState("load with a check of 251", b::load);
    }

    /** Numbers at their edges, and what the check can not tell apart. */
    private static void soundThoughNeverSeen() {
        TickArena a = smallWorld();
        a.save();
        Due.write(a, 1, 127, 255, 255, 255, 255, 255, 7, 15, 255, 15, 255, 28, 228, 200, 1, 234, 96);
        a.load();
        int handle = 16 * 65535;
        Due.is("clock", a.clock(), 2147483647);
        int[] due = {4095, 4095, -100, 100, 200, 1, 60000};
        for (int what = 0; what < 7; what++) {
            Due.is("about(" + handle + ", " + what + ")", a.about(handle, what), due[what]);
        }
        TickArena b = new TickArena();
        b.corrupt(4, 251, false);
        b.load();
        Due.is("clock, where 251 stands for 0", b.clock(), 251);
    }

    /** Pairs are those of things, with shapes or without, near or far, and each once. */
    private static void pairsOfAState() {
        TickArena a = pairsState(0x01, 0x02, 0x12);
        a.load();
        Due.is("three ends", a.tick(1), 3);
        Due.is("events", Due.events(a), Due.list(2, 0, 1, 2, 0, 2, 2, 1, 2));
        int[][] wrong = {{0x01, 0x01, 0x12}, {0x02, 0x01, 0x12}, {0x01, 0x12, 0x02}, {0x01, 0x02, 0x03},
            {0x01, 0x02, 0x21}, {0x00, 0x01, 0x02}, {0x01, 0x02, 0x22}, {0x01, 0x02, 0x23}};
        for (int[] row : wrong) {
            TickArena b = pairsState(row);
            Due.refusesState("load with the pairs " + Due.list(row), b::load);
        }
    }

    /** Three things, of which all pairs touched before they lost their shapes; the pairs are written over. */
    private static TickArena pairsState(int... pairs) {
        TickArena a = new TickArena();
        for (int slot = 0; slot < 3; slot++) {
            a.create(100, 100);
            a.shape(slot, 5, 5);
        }
        a.tick(1);
        for (int slot = 0; slot < 3; slot++) {
            a.shape(slot, 0, 0);
        }
        Due.is("save", a.save(), 5 + 3 * 9 + 13 * 3 + 4 + 2);
        Due.write(a, 72, pairs);
        return a;
    }

    /** The bytes of a world that ends before or behind the last byte are not those of a state. */
    private static void stateOfAnotherLength() {
        TickArena a = new TickArena();
        a.create(0, 0);
        a.save();
        Due.write(a, 7, 0);
        Due.refusesState("a thing taken out of the middle", a::load);
        TickArena longer = new TickArena();
        Due.write(longer, 7, 1, 0, 0, 0, 0, 128, 128);
        Due.refusesState("a state whose end is missing", longer::load);
        TickArena pairs = new TickArena();
        Due.write(pairs, 53, 255);
        Due.refusesState("more pairs than bytes", pairs::load);
        // An empty world, its check right behind it, and bytes left over.
        int[] empty = new int[54];
        empty[0] = 84;
        List<Integer> whole = withCheck(empty);
        TickArena over = new TickArena();
        over.create(0, 0);
        over.save();
        for (int k = 0; k < whole.size(); k++) {
            over.corrupt(k, whole.get(k), false);
        }
        Due.refusesState("bytes left over", over::load);
    }

    private static void replay() {
        TickArena a = smallWorld();
        a.save();
        a.create(9, 9);
        a.destroy(4);
        a.speed(0, 100, 0);
        a.shape(18, 3, 4);
        a.timer(1, 2);
        a.tick(3);
        a.create(8, 8);
        List<Integer> log = Due.bytes(a, true);
        Due.is("the log", log, Due.list(1, 0, 9, 0, 9, 2, 0, 0, 4, 3, 0, 0, 0, 228, 128, 4, 0, 0, 18, 3, 4,
                5, 0, 0, 1, 0, 2, 6, 6, 6, 1, 0, 8, 0, 8));
        String before = Due.picture(a);
        Due.is("replay", a.replay(), TickArena.NONE);
        Due.is("the log stays", Due.bytes(a, true), log);
        Due.is("the present made again", Due.picture(a), before.replaceAll("events .*", "events []"));
    }

    private static void replayMakesWhatCallsMade() {
        TickArena a = new TickArena();
        TickArena b = new TickArena();
        a.create(5, 6);
        b.create(5, 6);
        a.corrupt(2, 9, true);
        Due.is("replay of another place", a.replay(), TickArena.NONE);
        Due.is("x of that", a.about(0, 0), 5 + 4);
        a.tick(1);
        a.corrupt(5, 1, true);
        Due.is("replay that is cut off", a.replay(), 5);
        a.corrupt(5, 6, true);
        Due.is("replay", a.replay(), TickArena.NONE);
        Due.is("clock", a.clock(), 1);
        Due.is("the saved state stays", a.size(false), 56);
        a.load();
        Due.is("clock", a.clock(), 0);
        Due.is("good(0)", a.good(0), false);
        Due.is("log", a.size(true), 0);
        Due.is("good(0) of another object", b.good(0), true);
    }

    private static void replayOfNothing() {
        TickArena a = smallWorld();
        a.save();
        Due.write(a, 4, 9);
        Due.is("replay of an empty log", a.replay(), TickArena.NONE);
        Due.is("clock of the saved state", a.clock(), 9);
    }

    /** A byte of the log of smallWorld, what is written over it, and the place that is due then. */
    private static void replayRefuses() {
        int[][] rows = {
            {0, 0, 0}, {0, 7, 0}, {0, 255, 0}, {59, 0, 59}, {59, 7, 59}, {63, 0, 63}, {63, 7, 63}, {63, 255, 63},
            {1, 16, 0}, {3, 16, 0}, {6, 16, 5}, {8, 255, 5},
            {28, 5, 25}, {26, 1, 25}, {27, 1, 25}, {28, 16, 25},
            {29, 0, 25}, {29, 201, 25}, {30, 0, 25}, {30, 201, 25}, {30, 255, 25},
            {40, 9, 37}, {38, 255, 37}, {41, 27, 37}, {41, 229, 37}, {42, 27, 37}, {42, 229, 37}, {42, 0, 37},
            {46, 9, 43}, {47, 235, 43}, {48, 97, 43},
            {58, 9, 55}, {56, 16, 55}, {58, 18, 55},
            {52, 2, TickArena.NONE}, {58, 4, TickArena.NONE}};
        for (int[] row : rows) {
            TickArena a = smallWorld();
            a.tick(4);
            a.corrupt(row[0], row[1], true);
            Due.is("replay with " + row[1] + " at " + row[0], a.replay(), row[2]);
            Due.is("clock", a.clock(), 5);
            Due.is("good(2)", a.good(2), row[2] == TickArena.NONE && row[0] == 58);
            Due.is("good(4)", a.good(4), row[2] != TickArena.NONE || row[0] != 58);
        }
        createWithoutASlot();
    }

    private static void createWithoutASlot() {
        TickArena a = new TickArena();
        for (int slot = 0; slot < 16; slot++) {
            a.create(slot, 0);
        }
        a.save();
        a.destroy(15);
        a.create(1, 1);
        Due.is("replay", a.replay(), TickArena.NONE);
        // The destroy becomes four ticks: no slot is empty then.
        for (int k = 0; k < 4; k++) {
            a.corrupt(k, 6, true);
        }
        Due.is("replay without an empty slot", a.replay(), 4);
        Due.is("clock", a.clock(), 0);
    }

    private static void replayTakesTheEdges() {
        TickArena a = new TickArena();
        a.create(1, 1);
        a.speed(0, 0, 0);
        a.shape(0, 1, 1);
        a.timer(0, 1);
        int[][] bytes = {{1, 15}, {2, 255}, {3, 15}, {4, 255}, {9, 28}, {10, 228}, {15, 200}, {16, 200}, {21, 234}, {22, 96}};
        for (int[] b : bytes) {
            a.corrupt(b[0], b[1], true);
        }
        Due.is("replay", a.replay(), TickArena.NONE);
        int[] due = {4095, 4095, -100, 100, 200, 200, 60000};
        for (int what = 0; what < 7; what++) {
            Due.is("about(0, " + what + ")", a.about(0, what), due[what]);
        }
        int[][] nothing = {{15, 0}, {16, 0}, {21, 0}, {22, 0}};
        for (int[] b : nothing) {
            a.corrupt(b[0], b[1], true);
        }
        Due.is("replay", a.replay(), TickArena.NONE);
        for (int what = 4; what < 7; what++) {
            Due.is("about(0, " + what + ")", a.about(0, what), 0);
        }
    }

    /** A log of ticks whose last entries become the head of a longer one. */
    private static void replayCutOff() {
        int[] lengths = {0, 5, 4, 6, 6, 6};
        for (int kind = 1; kind < 6; kind++) {
            for (int have = 1; have <= lengths[kind]; have++) {
                TickArena a = new TickArena();
                a.create(3, 3);
                a.save();
                a.tick(20);
                int start = 20 - have;
                a.corrupt(start, kind, true);
                for (int k = start + 1; k < 20; k++) {
                    a.corrupt(k, 0, true);
                }
                if (kind == 3 && have == 6) {
                    a.corrupt(18, 128, true);
                    a.corrupt(19, 128, true);
                }
                int due = have == lengths[kind] ? TickArena.NONE : start;
                Due.is("replay with " + have + " bytes of an entry of kind " + kind, a.replay(), due);
                Due.is("clock", a.clock(), due == TickArena.NONE ? start : 20);
            }
        }
    }

    private static void sizeAndAt() {
        TickArena a = new TickArena();
        a.create(256, 5);
        Due.is("size(false)", a.size(false), 56);
        Due.is("size(true)", a.size(true), 5);
        Due.is("at(0, true)", a.at(0, true), 1);
        Due.is("at(1, true)", a.at(1, true), 1);
        Due.is("at(4, true)", a.at(4, true), 5);
        Due.is("at(55, false)", a.at(55, false), 85);
        Due.refusesIndex("at(5, true)", () -> a.at(5, true));
        Due.refusesIndex("at(56, false)", () -> a.at(56, false));
        Due.refusesIndex("at(-1, true)", () -> a.at(-1, true));
        Due.refusesIndex("at(-1, false)", () -> a.at(-1, false));
        Due.refusesIndex("at(MIN, false)", () -> a.at(Integer.MIN_VALUE, false));
        Due.refusesIndex("at(MAX, true)", () -> a.at(Integer.MAX_VALUE, true));
        Due.is("save", a.save(), 62);
        Due.is("size(false)", a.size(false), 62);
        Due.is("size(true)", a.size(true), 0);
        Due.refusesIndex("at(0, true)", () -> a.at(0, true));
        Due.is("at(8, false)", a.at(8, false), 1);
        a.destroy(0);
        a.save();
        Due.is("size of a smaller state", a.size(false), 56);
        Due.refusesIndex("at(56, false)", () -> a.at(56, false));
    }

    private static void corrupt() {
        TickArena a = new TickArena();
        a.create(1, 1);
        a.corrupt(2, 255, true);
        a.corrupt(2, 0, false);
        Due.is("at(2, true)", a.at(2, true), 255);
        Due.is("at(2, false)", a.at(2, false), 0);
        a.corrupt(55, 255, false);
        Due.is("at(55, false)", a.at(55, false), 255);
        a.corrupt(55, 0, false);
        Due.is("at(55, false)", a.at(55, false), 0);
        Due.is("the world stays", a.about(0, 0), 1);
        Due.is("sizes stay", a.size(true) + 1000 * a.size(false), 56005);
        int[] wrong = {-1, 256, Integer.MAX_VALUE, Integer.MIN_VALUE};
        for (int b : wrong) {
            Due.refusesArgument("corrupt(0, " + b + ", false)", () -> a.corrupt(0, b, false));
            Due.refusesArgument("corrupt(4, " + b + ", true)", () -> a.corrupt(4, b, true));
            Due.refusesIndex("corrupt(56, " + b + ", false)", () -> a.corrupt(56, b, false));
            Due.refusesIndex("corrupt(5, " + b + ", true)", () -> a.corrupt(5, b, true));
            Due.refusesIndex("corrupt(-1, " + b + ", true)", () -> a.corrupt(-1, b, true));
        }
        Due.refusesIndex("corrupt(5, 0, true)", () -> a.corrupt(5, 0, true));
        Due.refusesIndex("corrupt(-1, 0, false)", () -> a.corrupt(-1, 0, false));
        Due.is("byte 0 stays", a.at(0, false), 84);
    }
}
