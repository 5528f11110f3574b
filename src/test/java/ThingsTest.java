/** Promises 1 to 6 and 9 to 11: a new object, what changes things, and what is asked of them. */
public final class ThingsTest {
    private static final int MAX = Integer.MAX_VALUE;
    private static final int MIN = Integer.MIN_VALUE;

    public static void main(String[] args) {
        newObject();
        create();
        createRefuses();
        destroy();
        generationGoesRound();
        speed();
        shape();
        timer();
        good();
        about();
        handleOf();
        refusedCallsChangeNothing();
        fullLogRefusesLast();
        fullLogAndFullWorld();
        roomForEachEntry();
        Due.end();
    }

    private static void newObject() {
        TickArena a = new TickArena();
        Due.is("NONE", TickArena.NONE, -1);
        Due.is("clock of a new object", a.clock(), 0);
        Due.is("log of a new object", a.size(true), 0);
        for (int slot = 0; slot < 16; slot++) {
            Due.is("handleOf(" + slot + ") of a new object", a.handleOf(slot), TickArena.NONE);
            Due.is("good(" + slot + ") of a new object", a.good(slot), false);
        }
        int[] state = new int[56];
        state[0] = 84;
        // 84 is followed by 53 zeros: c stays 85, and d grows by 85 with each of the 54 bytes.
        state[54] = 54 * 85 % 251;
        state[55] = 85;
        Due.is("state of a new object", Due.bytes(a, false), Due.list(state));
        Due.refusesIndex("event(0, 0) of a new object", () -> a.event(0, 0));
        a.load();
        Due.is("load of a new object", a.clock(), 0);
    }

    private static void create() {
        TickArena a = new TickArena();
        Due.is("create(0, 4095)", a.create(0, 4095), 0);
        Due.is("create(4095, 0)", a.create(4095, 0), 1);
        Due.is("x", a.about(1, 0), 4095);
        Due.is("y", a.about(1, 1), 0);
        for (int what = 2; what < 7; what++) {
            Due.is("about(0, " + what + ") of a new thing", a.about(0, what), 0);
        }
        Due.is("log", Due.bytes(a, true), Due.list(1, 0, 0, 15, 255, 1, 15, 255, 0, 0));
        a.speed(0, 5, 5);
        a.shape(0, 6, 6);
        a.timer(0, 7);
        a.create(7, 7);
        a.destroy(0);
        a.destroy(2);
        Due.is("lowest empty slot", a.create(8, 9), 16);
        Due.is("next empty slot", a.create(8, 9), 18);
        Due.is("the one behind", a.create(8, 9), 3);
        for (int what = 2; what < 7; what++) {
            Due.is("about(16, " + what + ") in a slot used again", a.about(16, what), 0);
        }
        Due.is("x in a slot used again", a.about(16, 0), 8);
        Due.is("y in a slot used again", a.about(16, 1), 9);
    }

    private static void createRefuses() {
        TickArena a = new TickArena();
        int[][] places = {{-1, 0}, {0, -1}, {4096, 0}, {0, 4096}, {MIN, 0}, {0, MAX}};
        for (int[] p : places) {
            Due.refusesArgument("create(" + p[0] + ", " + p[1] + ")", () -> a.create(p[0], p[1]));
        }
        for (int slot = 0; slot < 16; slot++) {
            Due.is("create", a.create(slot, slot), slot);
        }
        Due.refusesState("create without an empty slot", () -> a.create(1, 1));
        Due.refusesArgument("create off the world without an empty slot", () -> a.create(1, 4096));
        Due.is("log", a.size(true), 80);
        a.destroy(9);
        Due.is("create in the only empty slot", a.create(1, 1), 25);
    }

    private static void destroy() {
        TickArena a = new TickArena();
        a.create(10, 10);
        a.create(10, 10);
        a.destroy(0);
        Due.is("good(0) after destroy(0)", a.good(0), false);
        Due.is("good(1) after destroy(0)", a.good(1), true);
        Due.is("good(16) of an empty slot", a.good(16), false);
        Due.is("handleOf(0) after destroy(0)", a.handleOf(0), TickArena.NONE);
        Due.is("log", Due.bytes(a, true).subList(10, 14), Due.list(2, 0, 0, 0));
        Due.refusesArgument("destroy(0) again", () -> a.destroy(0));
        Due.refusesArgument("destroy(16) of an empty slot", () -> a.destroy(16));
        Due.refusesArgument("destroy(-1)", () -> a.destroy(-1));
        Due.refusesArgument("destroy(-15)", () -> a.destroy(-15));
        Due.is("size of the log", a.size(true), 14);
    }

    private static void generationGoesRound() {
        TickArena a = new TickArena();
        Due.write(a, 5, 255, 255);
        a.load();
        int last = 16 * 65535;
        Due.is("create in generation 65535", a.create(1, 2), last);
        Due.is("good(last)", a.good(last), true);
        Due.is("good(last - 2^20)", a.good(last - (1 << 20)), false);
        Due.is("good(last + 2^20)", a.good(last + (1 << 20)), false);
        a.speed(last, 1, 1);
        a.destroy(last);
        Due.is("log", Due.bytes(a, true).subList(5, 15), Due.list(3, 15, 255, 240, 129, 129, 2, 15, 255, 240));
        Due.is("create behind generation 65535", a.create(1, 2), 0);
        Due.is("good(last)", a.good(last), false);
        Due.is("replay", a.replay(), TickArena.NONE);
        Due.is("handleOf(0)", a.handleOf(0), 0);
    }

    private static void speed() {
        TickArena a = new TickArena();
        a.create(10, 10);
        int[][] speeds = {{-100, 100}, {100, -100}, {0, 0}, {7, -9}};
        for (int[] v : speeds) {
            a.speed(0, v[0], v[1]);
            Due.is("vx", a.about(0, 2), v[0]);
            Due.is("vy", a.about(0, 3), v[1]);
        }
        Due.is("log", Due.bytes(a, true).subList(5, 29), Due.list(3, 0, 0, 0, 28, 228, 3, 0, 0, 0, 228, 28,
                3, 0, 0, 0, 128, 128, 3, 0, 0, 0, 135, 119));
        int[][] wrong = {{-101, 0}, {101, 0}, {0, -101}, {0, 101}, {MIN, 0}, {0, MIN}, {MAX, 0}, {0, MAX}};
        for (int[] v : wrong) {
            Due.refusesArgument("speed(0, " + v[0] + ", " + v[1] + ")", () -> a.speed(0, v[0], v[1]));
        }
        Due.refusesArgument("speed(1, 0, 0)", () -> a.speed(1, 0, 0));
        Due.refusesArgument("speed(16, 0, 0)", () -> a.speed(16, 0, 0));
        Due.is("vx stays", a.about(0, 2), 7);
        Due.is("vy stays", a.about(0, 3), -9);
        Due.is("size of the log", a.size(true), 29);
    }

    private static void shape() {
        TickArena a = new TickArena();
        a.create(10, 10);
        int[][] shapes = {{1, 200}, {200, 1}, {0, 0}, {7, 9}};
        for (int[] s : shapes) {
            a.shape(0, s[0], s[1]);
            Due.is("half width", a.about(0, 4), s[0]);
            Due.is("half height", a.about(0, 5), s[1]);
        }
        Due.is("log", Due.bytes(a, true).subList(5, 29), Due.list(4, 0, 0, 0, 1, 200, 4, 0, 0, 0, 200, 1,
                4, 0, 0, 0, 0, 0, 4, 0, 0, 0, 7, 9));
        int[][] wrong = {{0, 1}, {1, 0}, {-1, 1}, {1, -1}, {-1, -1}, {201, 1}, {1, 201}, {0, 201}, {MAX, MAX}, {MIN, MIN}};
        for (int[] s : wrong) {
            Due.refusesArgument("shape(0, " + s[0] + ", " + s[1] + ")", () -> a.shape(0, s[0], s[1]));
        }
        Due.refusesArgument("shape(1, 1, 1)", () -> a.shape(1, 1, 1));
        Due.refusesArgument("shape(1, 0, 0)", () -> a.shape(1, 0, 0));
        Due.refusesArgument("shape(16, 1, 1)", () -> a.shape(16, 1, 1));
        Due.is("half width stays", a.about(0, 4), 7);
        Due.is("half height stays", a.about(0, 5), 9);
        Due.is("size of the log", a.size(true), 29);
    }

    private static void timer() {
        TickArena a = new TickArena();
        a.create(10, 10);
        int[] timers = {1, 60000, 0, 258};
        for (int n : timers) {
            a.timer(0, n);
            Due.is("timer", a.about(0, 6), n);
        }
        Due.is("log", Due.bytes(a, true).subList(5, 29), Due.list(5, 0, 0, 0, 0, 1, 5, 0, 0, 0, 234, 96,
                5, 0, 0, 0, 0, 0, 5, 0, 0, 0, 1, 2));
        int[] wrong = {-1, 60001, MAX, MIN};
        for (int n : wrong) {
            Due.refusesArgument("timer(0, " + n + ")", () -> a.timer(0, n));
        }
        Due.refusesArgument("timer(1, 1)", () -> a.timer(1, 1));
        Due.refusesArgument("timer(16, 0)", () -> a.timer(16, 0));
        Due.is("timer stays", a.about(0, 6), 258);
        Due.is("size of the log", a.size(true), 29);
    }

    private static void good() {
        TickArena a = new TickArena();
        a.create(1, 1);
        a.create(1, 1);
        a.destroy(1);
        a.create(1, 1);
        int[] good = {0, 17};
        for (int handle : good) {
            Due.is("good(" + handle + ")", a.good(handle), true);
        }
        int[] stale = {1, 16, 33, 2, 15, -1, -16, -15, MIN, MIN + 17, MAX, 1 << 20, 17 + (1 << 20), 17 + (1 << 28)};
        for (int handle : stale) {
            Due.is("good(" + handle + ")", a.good(handle), false);
        }
    }

    private static void about() {
        TickArena a = new TickArena();
        a.create(1, 1);
        a.create(11, 12);
        a.speed(1, 13, -14);
        a.shape(1, 15, 16);
        a.timer(1, 17);
        int[] due = {11, 12, 13, -14, 15, 16, 17};
        for (int what = 0; what < 7; what++) {
            Due.is("about(1, " + what + ")", a.about(1, what), due[what]);
        }
        int[] wrong = {-1, 7, MAX, MIN};
        for (int what : wrong) {
            Due.refusesIndex("about(1, " + what + ")", () -> a.about(1, what));
            Due.refusesArgument("about(2, " + what + ")", () -> a.about(2, what));
        }
        Due.refusesArgument("about(17, 0)", () -> a.about(17, 0));
        Due.refusesArgument("about(-1, 0)", () -> a.about(-1, 0));
    }

    private static void handleOf() {
        TickArena a = new TickArena();
        for (int slot = 0; slot < 16; slot++) {
            a.create(slot, slot);
        }
        a.destroy(3);
        a.destroy(4);
        a.create(3, 3);
        Due.is("handleOf(0)", a.handleOf(0), 0);
        Due.is("handleOf(3)", a.handleOf(3), 19);
        Due.is("handleOf(4)", a.handleOf(4), TickArena.NONE);
        Due.is("handleOf(15)", a.handleOf(15), 15);
        int[] wrong = {-1, 16, 19, MAX, MIN};
        for (int slot : wrong) {
            Due.refusesIndex("handleOf(" + slot + ")", () -> a.handleOf(slot));
        }
    }

    private static void refusedCallsChangeNothing() {
        TickArena a = new TickArena();
        a.create(100, 100);
        a.create(110, 110);
        a.shape(0, 20, 20);
        a.shape(1, 20, 20);
        a.tick(1);
        String before = Due.picture(a);
        Due.refusesArgument("create", () -> a.create(4096, 1));
        Due.refusesArgument("destroy", () -> a.destroy(2));
        Due.refusesArgument("speed", () -> a.speed(0, 101, 0));
        Due.refusesArgument("shape", () -> a.shape(0, 0, 1));
        Due.refusesArgument("timer", () -> a.timer(0, 60001));
        Due.refusesArgument("tick", () -> a.tick(51));
        Due.refusesArgument("under", () -> a.under(4096, 0));
        Due.refusesIndex("corrupt", () -> a.corrupt(56, 1, false));
        Due.refusesArgument("corrupt", () -> a.corrupt(0, 256, false));
        Due.is("the world after refused calls", Due.picture(a), before);
    }

    /** 394 bytes are in the log when the calls that need more room are made. */
    private static void fullLogRefusesLast() {
        TickArena a = new TickArena();
        a.create(100, 100);
        for (int i = 0; i < 64; i++) {
            a.speed(0, i, -i);
        }
        a.create(50, 50);
        Due.is("size of the log", a.size(true), 394);
        a.tick(1);
        a.tick(1);
        Due.is("size of the log", a.size(true), 396);
        Due.refusesForRoom("create", () -> a.create(1, 1));
        Due.refusesForRoom("speed", () -> a.speed(0, 1, 1));
        Due.refusesForRoom("shape", () -> a.shape(0, 1, 1));
        Due.refusesForRoom("timer", () -> a.timer(0, 1));
        Due.refusesForRoom("tick", () -> a.tick(5));
        Due.refusesArgument("create", () -> a.create(1, 4096));
        Due.refusesArgument("speed", () -> a.speed(2, 1, 1));
        Due.refusesArgument("speed", () -> a.speed(0, 101, 1));
        Due.refusesArgument("shape", () -> a.shape(0, 0, 1));
        Due.refusesArgument("timer", () -> a.timer(0, -1));
        Due.refusesArgument("tick", () -> a.tick(51));
        Due.is("size of the log", a.size(true), 396);
        Due.is("vx", a.about(0, 2), 63);
        Due.is("half width", a.about(0, 4), 0);
        Due.is("timer", a.about(0, 6), 0);
        Due.is("clock", a.clock(), 2);
        a.destroy(1);
        Due.is("size of the full log", a.size(true), 400);
        Due.refusesForRoom("destroy", () -> a.destroy(0));
        Due.refusesForRoom("tick", () -> a.tick(1));
        Due.refusesArgument("destroy", () -> a.destroy(1));
        Due.is("good(0)", a.good(0), true);
        Due.is("replay of a full log", a.replay(), TickArena.NONE);
        Due.is("clock", a.clock(), 2);
        a.save();
        a.tick(50);
        Due.is("size of the log after save", a.size(true), 50);
    }

    private static void fullLogAndFullWorld() {
        TickArena a = new TickArena();
        for (int slot = 0; slot < 16; slot++) {
            a.create(slot, slot);
        }
        a.save();
        Due.leaveRoom(a, 4);
        Due.refusesState("create without a slot and without room", () -> a.create(1, 1));
        Due.refusesArgument("create off the world", () -> a.create(1, -1));
        a.destroy(3);
        Due.refusesForRoom("create without room", () -> a.create(1, 1));
        a.load();
        Due.is("good(3)", a.good(3), true);
    }

    /** Each entry fits when just its length is left, and not when one byte less is. */
    private static void roomForEachEntry() {
        int[] lengths = {5, 4, 6, 6, 6, 1};
        for (int kind = 0; kind < lengths.length; kind++) {
            int which = kind;
            TickArena a = thingAndRoom(lengths[kind]);
            Due.is("size of the log before", a.size(true), 400 - lengths[kind]);
            change(a, which);
            Due.is("size of the log after", a.size(true), 400);
            Due.is("replay", a.replay(), TickArena.NONE);
            TickArena b = thingAndRoom(lengths[kind] - 1);
            Due.refusesForRoom("an entry of kind " + (which + 1), () -> change(b, which));
            Due.is("size of the log after", b.size(true), 401 - lengths[kind]);
        }
    }

    private static TickArena thingAndRoom(int room) {
        TickArena a = new TickArena();
        a.create(9, 9);
        a.save();
        Due.leaveRoom(a, room);
        return a;
    }

    private static void change(TickArena a, int which) {
        switch (which) {
            case 0:
                a.create(1, 1);
                break;
            case 1:
                a.destroy(0);
                break;
            case 2:
                a.speed(0, 1, 1);
                break;
            case 3:
                a.shape(0, 1, 1);
                break;
            case 4:
                a.timer(0, 1);
                break;
            default:
                a.tick(1);
                break;
        }
    }
}
