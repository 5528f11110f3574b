/** Promises 7, 8, 12 and 13: ticks, their events, what covers a point, and the clock. */
public final class TickTest {
    public static void main(String[] args) {
        tickCountsAndRefuses();
        walls();
        timersEnd();
        timersBeforeMovesAndEvents();
        eventKinds();
        eventEdges();
        eventOrder();
        shapeGoes();
        thingGoes();
        eventsOfTheLastTickOnly();
        whenThereAreNoEvents();
        under();
        clockStays();
        roomForAllTicks();
        Due.end();
    }

    private static void tickCountsAndRefuses() {
        TickArena a = new TickArena();
        Due.is("tick(1)", a.tick(1), 0);
        Due.is("clock", a.clock(), 1);
        Due.is("tick(50)", a.tick(50), 0);
        Due.is("clock", a.clock(), 51);
        Due.is("size of the log", a.size(true), 51);
        Due.is("first byte of the log", a.at(0, true), 6);
        Due.is("last byte of the log", a.at(50, true), 6);
        int[] wrong = {0, -1, 51, Integer.MIN_VALUE, Integer.MAX_VALUE};
        for (int n : wrong) {
            Due.refusesArgument("tick(" + n + ")", () -> a.tick(n));
        }
        Due.is("clock", a.clock(), 51);
    }

    /** Place and speed on one axis before a tick, and after it. */
    private static void walls() {
        int[][] rows = {
            {50, 10, 60, 10}, {50, -50, 0, -50}, {50, -51, 1, 51}, {0, -1, 1, 1}, {0, -100, 100, 100},
            {4000, 95, 4095, 95}, {4000, 96, 4094, -96}, {4095, 1, 4094, -1}, {4095, 100, 3995, -100},
            {0, 0, 0, 0}, {4095, 0, 4095, 0}};
        for (int[] row : rows) {
            TickArena a = new TickArena();
            a.create(row[0], 2000);
            a.create(2000, row[0]);
            a.speed(0, row[1], 3);
            a.speed(1, 3, row[1]);
            a.tick(1);
            String what = " from " + row[0] + " with " + row[1];
            Due.is("x" + what, a.about(0, 0), row[2]);
            Due.is("vx" + what, a.about(0, 2), row[3]);
            Due.is("y of the other axis" + what, a.about(0, 1), 2003);
            Due.is("vy of the other axis" + what, a.about(0, 3), 3);
            Due.is("y" + what, a.about(1, 1), row[2]);
            Due.is("vy" + what, a.about(1, 3), row[3]);
            Due.is("x of the other axis" + what, a.about(1, 0), 2003);
            Due.is("vx of the other axis" + what, a.about(1, 2), 3);
        }
    }

    private static void timersEnd() {
        TickArena a = new TickArena();
        a.create(1, 1);
        a.create(2, 2);
        a.create(3, 3);
        a.timer(0, 1);
        a.timer(1, 3);
        a.tick(1);
        Due.is("good(0)", a.good(0), false);
        Due.is("timer of 1", a.about(1, 6), 2);
        Due.is("timer of 2", a.about(2, 6), 0);
        a.tick(1);
        Due.is("timer of 1", a.about(1, 6), 1);
        a.timer(1, 0);
        a.tick(50);
        Due.is("good(1)", a.good(1), true);
        Due.is("create", a.create(9, 9), 16);
        Due.is("timer of a slot used again", a.about(16, 6), 0);
    }

    private static void timersBeforeMovesAndEvents() {
        TickArena a = touchingPair();
        a.timer(0, 1);
        Due.is("tick in which a thing of a touching pair goes", a.tick(1), 0);
        a.create(100, 100);
        a.shape(16, 10, 10);
        Due.is("tick behind it", a.tick(1), 1);
        Due.is("the pair begins anew", Due.events(a), Due.list(0, 0, 1));
    }

    private static TickArena touchingPair() {
        TickArena a = new TickArena();
        a.create(100, 100);
        a.create(105, 105);
        a.shape(0, 10, 10);
        a.shape(1, 10, 10);
        Due.is("tick(1)", a.tick(1), 1);
        return a;
    }

    private static void eventKinds() {
        TickArena a = touchingPair();
        Due.is("begin", Due.events(a), Due.list(0, 0, 1));
        Due.is("tick(1)", a.tick(1), 1);
        Due.is("stay", Due.events(a), Due.list(1, 0, 1));
        a.speed(1, 100, 0);
        Due.is("tick(1)", a.tick(1), 1);
        Due.is("end", Due.events(a), Due.list(2, 0, 1));
        Due.is("tick(1)", a.tick(1), 0);
        Due.is("apart", Due.events(a), Due.list());
        a.speed(1, -100, 0);
        Due.is("tick(2)", a.tick(2), 1);
        Due.is("begin again", Due.events(a), Due.list(0, 0, 1));
        int[] wrong = {-1, 3, Integer.MAX_VALUE, Integer.MIN_VALUE};
        for (int what : wrong) {
            Due.refusesArgument("event(0, " + what + ")", () -> a.event(0, what));
            Due.refusesIndex("event(1, " + what + ")", () -> a.event(1, what));
        }
        Due.refusesIndex("event(1, 0)", () -> a.event(1, 0));
        Due.refusesIndex("event(-1, 0)", () -> a.event(-1, 0));
        Due.refusesIndex("event(120, 0)", () -> a.event(120, 0));
    }

    /** Distances on both axes, and whether shapes of 10, 20 and 5, 7 overlap there. */
    private static void eventEdges() {
        int[][] rows = {{14, 26, 1}, {15, 26, 0}, {14, 27, 0}, {-14, -26, 1}, {-15, 0, 0}, {0, -27, 0}, {0, 0, 1}};
        for (int[] row : rows) {
            TickArena a = new TickArena();
            a.create(1000, 1000);
            a.create(1000 + row[0], 1000 + row[1]);
            a.shape(0, 10, 20);
            Due.is("tick with one shape", a.tick(1), 0);
            a.shape(1, 5, 7);
            Due.is("tick at a distance of " + row[0] + ", " + row[1], a.tick(1), row[2]);
        }
    }

    private static void eventOrder() {
        TickArena a = new TickArena();
        for (int slot = 0; slot < 16; slot++) {
            a.create(2000 + slot, 2000);
            a.shape(slot, 200, 200);
        }
        Due.is("all pairs", a.tick(1), 120);
        int k = 0;
        for (int first = 0; first < 16; first++) {
            for (int second = first + 1; second < 16; second++) {
                Due.is("a of event " + k, a.event(k, 1), first);
                Due.is("b of event " + k, a.event(k, 2), second);
                k++;
            }
        }
        a.destroy(7);
        a.shape(3, 0, 0);
        Due.is("all pairs but those of 7", a.tick(1), 105);
        Due.is("stay of 0 and 1", a.event(0, 0), 1);
        Due.is("end of 0 and 3", a.event(2, 0), 2);
        Due.is("b of that", a.event(2, 2), 3);
        Due.is("all pairs but those of 3 and 7", a.tick(1), 91);
    }

    private static void shapeGoes() {
        TickArena a = touchingPair();
        a.shape(1, 0, 0);
        Due.is("tick without a shape", a.tick(1), 1);
        Due.is("end", Due.events(a), Due.list(2, 0, 1));
        Due.is("tick without a shape", a.tick(1), 0);
        a.shape(1, 5, 5);
        a.tick(1);
        a.shape(1, 0, 0);
        a.shape(1, 6, 6);
        a.tick(1);
        Due.is("stay of another shape", Due.events(a), Due.list(1, 0, 1));
    }

    private static void thingGoes() {
        TickArena a = touchingPair();
        a.destroy(1);
        a.create(105, 105);
        a.shape(17, 10, 10);
        a.tick(1);
        Due.is("begin with another thing in the slot", Due.events(a), Due.list(0, 0, 1));
        a.destroy(0);
        Due.is("tick behind destroy", a.tick(1), 0);
    }

    private static void eventsOfTheLastTickOnly() {
        TickArena a = touchingPair();
        a.speed(1, 0, 100);
        Due.is("tick(2)", a.tick(2), 0);
        Due.is("events", Due.events(a), Due.list());
        a.speed(1, 0, -100);
        Due.is("tick(2)", a.tick(2), 1);
        a.destroy(1);
        a.create(1, 1);
        a.timer(0, 7);
        Due.is("events stay until the next tick", Due.events(a), Due.list(0, 0, 1));
    }

    private static void whenThereAreNoEvents() {
        TickArena a = touchingPair();
        a.corrupt(0, 9, true);
        Due.is("replay that fails", a.replay(), 0);
        Due.is("events behind it", Due.events(a), Due.list(0, 0, 1));
        a.corrupt(0, 1, true);
        Due.is("replay", a.replay(), TickArena.NONE);
        Due.is("events behind a replay", Due.events(a), Due.list());
        a.tick(1);
        Due.is("the pair touches behind a replay", Due.events(a), Due.list(1, 0, 1));
        a.save();
        Due.is("events behind a save", Due.events(a), Due.list());
        a.tick(1);
        a.corrupt(0, 0, false);
        Due.refusesState("load", a::load);
        Due.refusesState("replay", a::replay);
        Due.is("events behind a load that fails", Due.events(a), Due.list(1, 0, 1));
        a.corrupt(0, 84, false);
        a.load();
        Due.is("events behind a load", Due.events(a), Due.list());
        a.tick(1);
        Due.is("the pair touches behind a load", Due.events(a), Due.list(1, 0, 1));
        a.load();
        Due.is("events behind a second load", Due.events(a), Due.list());
    }

    private static void under() {
        TickArena a = new TickArena();
        a.create(100, 200);
        a.create(100, 200);
        a.shape(0, 10, 20);
        int[][] rows = {{100, 200, 1}, {109, 219, 1}, {91, 181, 1}, {110, 200, 0}, {90, 200, 0}, {100, 220, 0},
            {100, 180, 0}, {0, 0, 0}, {4095, 4095, 0}};
        for (int[] row : rows) {
            Due.is("under(" + row[0] + ", " + row[1] + ")", a.under(row[0], row[1]), row[2]);
        }
        a.shape(1, 200, 200);
        Due.is("under both", a.under(100, 200), 3);
        Due.is("under the second", a.under(0, 1), 2);
        for (int slot = 2; slot < 16; slot++) {
            a.create(4095, 4095);
            a.shape(slot, 1, 1);
        }
        Due.is("under all but two", a.under(4095, 4095), 65532);
        Due.is("beside all but two", a.under(4095, 4094), 0);
        a.destroy(15);
        Due.is("under all but three", a.under(4095, 4095), 32764);
        int[][] wrong = {{-1, 0}, {0, -1}, {4096, 0}, {0, 4096}};
        for (int[] p : wrong) {
            Due.refusesArgument("under(" + p[0] + ", " + p[1] + ")", () -> a.under(p[0], p[1]));
        }
    }

    private static void clockStays() {
        TickArena a = new TickArena();
        a.create(5, 5);
        a.speed(0, 1, 0);
        a.save();
        Due.write(a, 1, 127, 255, 255, 253);
        a.load();
        Due.is("clock", a.clock(), 2147483645);
        a.tick(1);
        Due.is("clock", a.clock(), 2147483646);
        a.tick(3);
        Due.is("clock", a.clock(), 2147483647);
        Due.is("the rest of the tick goes on", a.about(0, 0), 9);
        a.save();
        Due.is("clock as bytes", Due.bytes(a, false).subList(0, 5), Due.list(84, 127, 255, 255, 255));
        a.load();
        Due.is("clock", a.clock(), 2147483647);
    }

    private static void roomForAllTicks() {
        TickArena a = new TickArena();
        for (int i = 0; i < 7; i++) {
            a.tick(50);
        }
        a.tick(1);
        Due.refusesForRoom("tick(50)", () -> a.tick(50));
        Due.is("clock", a.clock(), 351);
        Due.is("size of the log", a.size(true), 351);
        Due.refusesArgument("tick(51)", () -> a.tick(51));
        a.tick(49);
        Due.is("clock", a.clock(), 400);
        Due.refusesForRoom("tick(1)", () -> a.tick(1));
        Due.is("replay", a.replay(), TickArena.NONE);
        Due.is("clock", a.clock(), 400);
    }
}
