import java.util.List;

/** The sentences of "What it is" and "Terms" that name a boundary: slots, things, the world and its ticks. */
public final class TermsEdgesTest {
    private static final int LAST_GENERATION = 65535;

    public static void main(String[] args) {
        calls();
        slots();
        generations();
        handles();
        goodHandles();
        generationGrows();
        places();
        overlap();
        overlapNeedsBothAxes();
        cover();
        clockStays();
        pairsAtFirst();
        pairsGo();
        pairsGoWithATimer();
        clockGrows();
        timers();
        timersSlotBySlot();
        lowWall();
        highWall();
        wallsOfBothAxes();
        manyBounces();
        eventsInPlaceOfThoseBefore();
        orderOfEvents();
        kindsOfEvents();
        endWithoutAShape();
        whatTouchesAfterwards();
        Due.end();
    }

    /** The last calls of an object are as good as the first. */
    private static void calls() {
        Due.sentence("An object is used for at most 512 calls after it has been made; what later calls answer is free.");
        TickArena a = new TickArena();
        a.create(0, 0);
        a.speed(0, 1, 0);
        for (int call = 3; call <= 510; call++) {
            if (call == 300) {
                a.save();
            } else {
                a.tick(1);
            }
        }
        Due.is("call 511: x", a.about(0, 0), 507);
        Due.is("call 512: clock", a.clock(), 507);
    }

    private static void slots() {
        Due.sentence("SLOTS are 0 .. 15.");
        TickArena a = new TickArena();
        for (int slot = 0; slot <= 15; slot++) {
            Due.is("create", a.create(1, 1), slot);
        }
        Due.refusesState("create of a 17th thing", () -> a.create(1, 1));
        Due.is("handleOf(0)", a.handleOf(0), 0);
        Due.is("handleOf(15)", a.handleOf(15), 15);
        Due.refusesIndex("handleOf(-1)", () -> a.handleOf(-1));
        Due.refusesIndex("handleOf(16)", () -> a.handleOf(16));
    }

    private static void generations() {
        Due.sentence("Each has a GENERATION 0 .. 65535 (0 at first) and is EMPTY (at first) or has a THING.");
        TickArena a = new TickArena();
        for (int slot = 0; slot <= 15; slot++) {
            Due.is("handleOf(" + slot + ") at first", a.handleOf(slot), TickArena.NONE);
            Due.is("create in generation 0 of slot " + slot, a.create(1, 1), slot);
        }
        int[] slots = {0, 15};
        int[] generations = {0, 1, 255, 256, 65534, 65535};
        for (int slot : slots) {
            for (int generation : generations) {
                TickArena b = inGeneration(slot, generation);
                Due.is("create in generation " + generation, b.create(1, 1), slot + 16 * generation);
            }
        }
    }

    /** The slots before are taken, so that the next thing comes into this one. */
    private static TickArena inGeneration(int slot, int generation) {
        State state = new State();
        for (int i = 0; i < slot; i++) {
            state.slot(i, State.bare());
        }
        TickArena a = state.slot(slot, generation / 256, generation % 256, 0).arena();
        a.load();
        return a;
    }

    private static void handles() {
        Due.sentence("The HANDLE of a thing is slot + 16 * generation.");
        TickArena first = inGeneration(0, 0);
        Due.is("the least handle", first.create(1, 1), 0);
        Due.is("handleOf(0)", first.handleOf(0), 0);
        TickArena last = inGeneration(15, LAST_GENERATION);
        Due.is("the largest handle", last.create(1, 1), 1048575);
        Due.is("handleOf(15)", last.handleOf(15), 1048575);
        last.destroy(1048575);
        Due.is("the handle behind it", last.create(1, 1), 15);
    }

    private static void goodHandles() {
        Due.sentence("A handle is GOOD when the slot has a thing and that generation.");
        TickArena a = inGeneration(3, 7);
        int handle = 3 + 16 * 7;
        Due.is("good, but the slot is empty", a.good(handle), false);
        a.create(1, 1);
        Due.is("good", a.good(handle), true);
        int[] others = {handle - 16, handle + 16, handle - 1, handle + 1, handle + (1 << 20), handle + (1 << 24),
            handle - (1 << 20), handle | Integer.MIN_VALUE, -handle, -1, Integer.MAX_VALUE, Integer.MIN_VALUE};
        for (int other : others) {
            Due.is("good(" + other + ")", a.good(other), false);
        }
        a.destroy(handle);
        Due.is("good of a thing that went", a.good(handle), false);
        Due.is("good of the next generation in an empty slot", a.good(handle + 16), false);
        a.create(1, 1);
        Due.is("good of a stale handle", a.good(handle), false);
        Due.is("good of the next generation", a.good(handle + 16), true);
    }

    private static void generationGrows() {
        Due.sentence("When a thing goes, its slot's generation grows by 1 (from 65535 to 0).");
        int[][] rows = {{0, 1}, {1, 2}, {255, 256}, {32767, 32768}, {65534, 65535}, {65535, 0}};
        int[] slots = {0, 15};
        for (int slot : slots) {
            for (int[] row : rows) {
                int before = slot + 16 * row[0];
                int after = slot + 16 * row[1];
                TickArena destroyed = inGeneration(slot, row[0]);
                destroyed.create(1, 1);
                destroyed.destroy(before);
                Due.is("create behind destroy in generation " + row[0], destroyed.create(1, 1), after);
                Due.is("replay of that", destroyed.replay(), TickArena.NONE);
                Due.is("the handle behind a replay", destroyed.handleOf(slot), after);
                TickArena timed = inGeneration(slot, row[0]);
                timed.create(1, 1);
                timed.timer(before, 1);
                timed.tick(1);
                Due.is("create behind a timer in generation " + row[0], timed.create(1, 1), after);
                Due.is("the other slots' generations", timed.handleOf(slot == 0 ? 1 : 0), slot == 0 ? -1 : 0);
            }
        }
        refusedDestroyLeavesTheGeneration();
    }

    private static void refusedDestroyLeavesTheGeneration() {
        TickArena a = inGeneration(0, LAST_GENERATION);
        a.create(1, 1);
        Due.refusesArgument("destroy of generation 0", () -> a.destroy(0));
        Due.is("handleOf(0)", a.handleOf(0), 16 * LAST_GENERATION);
    }

    private static void places() {
        Due.sentence("A THING has a PLACE x, y (0 .. 4095 each), a SPEED vx, vy (-100 .. 100 each), perhaps a SHAPE,"
                + " a half width and a half height (1 .. 200 each), and perhaps a TIMER (1 .. 60000).");
        int[][] rows = {{0, 4095, -100, 100, 1, 200, 1}, {4095, 0, 100, -100, 200, 1, 60000}};
        for (int[] row : rows) {
            TickArena a = new TickArena();
            int handle = a.create(row[0], row[1]);
            a.speed(handle, row[2], row[3]);
            a.shape(handle, row[4], row[5]);
            a.timer(handle, row[6]);
            for (int what = 0; what < 7; what++) {
                Due.is("about(handle, " + what + ")", a.about(handle, what), row[what]);
            }
        }
        TickArena without = new TickArena();
        without.create(9, 9);
        for (int what = 4; what < 7; what++) {
            Due.is("about(handle, " + what + ") without shape and timer", without.about(0, what), 0);
        }
    }

    private static final String OVERLAP = "Two things with shapes OVERLAP when their x differ by less than both half"
            + " widths together, and their y by less than both half heights together.";

    /** Half sizes of the two things on one axis: they overlap up to one less than the sum. */
    private static void overlap() {
        Due.sentence(OVERLAP);
        int[][] rows = {{1, 1}, {1, 200}, {200, 1}, {200, 200}, {10, 5}, {3, 4}};
        for (int[] row : rows) {
            int sum = row[0] + row[1];
            int[] distances = {-sum - 1, -sum, 1 - sum, 0, sum - 1, sum, sum + 1};
            for (int distance : distances) {
                int due = Math.abs(distance) < sum ? 1 : 0;
                String what = "half sizes " + row[0] + " and " + row[1] + " at a distance of " + distance;
                Due.is("tick: x, " + what, events(distance, 0, row[0], 9, row[1], 9), due);
                Due.is("tick: y, " + what, events(0, distance, 9, row[0], 9, row[1]), due);
            }
        }
    }

    private static int events(int dx, int dy, int width, int height, int otherWidth, int otherHeight) {
        TickArena a = new TickArena();
        a.create(2000, 2000);
        a.create(2000 + dx, 2000 + dy);
        a.shape(0, width, height);
        a.shape(1, otherWidth, otherHeight);
        return a.tick(1);
    }

    private static void overlapNeedsBothAxes() {
        Due.sentence(OVERLAP);
        int[][] rows = {{14, 26, 1}, {-14, 26, 1}, {14, -26, 1}, {-14, -26, 1},
            {15, 26, 0}, {14, 27, 0}, {15, 27, 0}, {-15, -26, 0}, {-14, -27, 0}, {26, 14, 0}};
        for (int[] row : rows) {
            Due.is("tick at " + row[0] + ", " + row[1], events(row[0], row[1], 10, 20, 5, 7), row[2]);
        }
        TickArena one = new TickArena();
        one.create(5, 5);
        one.create(5, 5);
        Due.is("tick of two things without shapes", one.tick(1), 0);
        one.shape(0, 200, 200);
        Due.is("tick of two things with one shape", one.tick(1), 0);
        one.shape(0, 0, 0);
        one.shape(1, 200, 200);
        Due.is("tick of two things with the other shape", one.tick(1), 0);
        one.shape(0, 1, 1);
        Due.is("tick of two things with shapes", one.tick(1), 1);
        one.destroy(0);
        Due.is("tick of a thing and an empty slot", one.tick(1), 0);
    }

    private static void cover() {
        Due.sentence("A thing with a shape COVERS a point when that differs in x by less than the half width,"
                + " and in y by less than the half height.");
        int[] sizes = {1, 2, 199, 200};
        for (int size : sizes) {
            TickArena a = new TickArena();
            a.create(1000, 2000);
            a.create(1000, 2000);
            a.shape(0, size, 3);
            a.shape(1, 3, size);
            int[] distances = {-size - 1, -size, 1 - size, 0, size - 1, size, size + 1};
            for (int distance : distances) {
                int near = Math.abs(distance) < 3 ? 1 : 0;
                int due = Math.abs(distance) < size ? 1 : 0;
                String what = "size " + size + " at a distance of " + distance;
                Due.is("under: x, " + what, a.under(1000 + distance, 2000), due + 2 * near);
                Due.is("under: y, " + what, a.under(1000, 2000 + distance), near + 2 * due);
                Due.is("under: x with y at its last, " + what, a.under(1000 + distance, 2002) & 1, due);
                Due.is("under: x with y behind it, " + what, a.under(1000 + distance, 2003) & 1, 0);
            }
        }
        coverNeedsAThingWithAShape();
    }

    private static void coverNeedsAThingWithAShape() {
        TickArena a = new TickArena();
        a.create(0, 0);
        a.create(4095, 4095);
        Due.is("under a thing without a shape", a.under(0, 0), 0);
        a.shape(0, 1, 1);
        a.shape(1, 1, 1);
        Due.is("under the lowest corner", a.under(0, 0), 1);
        Due.is("under the highest corner", a.under(4095, 4095), 2);
        Due.is("beside the lowest corner", a.under(1, 0) + a.under(0, 1), 0);
        Due.is("beside the highest corner", a.under(4094, 4095) + a.under(4095, 4094), 0);
        a.shape(0, 0, 0);
        a.destroy(1);
        Due.is("under a shape that was taken away", a.under(0, 0), 0);
        Due.is("under a thing that went", a.under(4095, 4095), 0);
    }

    private static TickArena atClock(int... clock) {
        TickArena a = new State().clock(clock).slot(0, State.with(State.bare(), 7, 129)).arena();
        a.load();
        return a;
    }

    private static void clockStays() {
        Due.sentence("THE WORLD has the slots, a CLOCK (0 at first, at most 2^31 - 1, where it stays), and the PAIRS"
                + " that TOUCH: pairs of slots a, b with a < b, none at first.");
        Due.is("clock at first", new TickArena().clock(), 0);
        TickArena a = atClock(127, 255, 255, 253);
        Due.is("clock", a.clock(), Integer.MAX_VALUE - 2);
        a.tick(1);
        Due.is("clock one before the last", a.clock(), Integer.MAX_VALUE - 1);
        a.tick(1);
        Due.is("the last clock", a.clock(), Integer.MAX_VALUE);
        a.tick(1);
        Due.is("the clock stays", a.clock(), Integer.MAX_VALUE);
        Due.is("things go on moving", a.about(0, 0), 103);
        Due.is("size of the log", a.size(true), 3);
        Due.is("replay", a.replay(), TickArena.NONE);
        Due.is("the clock stays in a replay", a.clock(), Integer.MAX_VALUE);
        Due.is("things go on moving in a replay", a.about(0, 0), 103);
        TickArena b = atClock(127, 255, 255, 254);
        b.tick(50);
        Due.is("the clock stays within a call", b.clock(), Integer.MAX_VALUE);
        b.save();
        Due.is("the last clock as bytes", Due.bytes(b, false).subList(0, 5), Due.list(84, 127, 255, 255, 255));
        b.load();
        b.tick(50);
        Due.is("the clock stays behind a load", b.clock(), Integer.MAX_VALUE);
    }

    private static void pairsAtFirst() {
        Due.sentence("THE WORLD has the slots, a CLOCK (0 at first, at most 2^31 - 1, where it stays), and the PAIRS"
                + " that TOUCH: pairs of slots a, b with a < b, none at first.");
        Due.is("pairs of the first state", new TickArena().at(53, false), 0);
        TickArena a = new TickArena();
        a.create(5, 5);
        a.create(5, 5);
        a.shape(0, 1, 1);
        a.shape(1, 1, 1);
        Due.is("save", a.save(), 72);
        Due.is("things that overlap touch only behind a tick", a.at(69, false), 0);
        a.tick(1);
        Due.is("the first event of a pair: a begin, a < b", Due.events(a), Due.list(0, 0, 1));
    }

    /** Of sixteen things at one place those in slots 0, 7 and 15 have shapes, and touch one another. */
    private static TickArena threeTouching() {
        TickArena a = new TickArena();
        for (int slot = 0; slot <= 15; slot++) {
            a.create(2000, 2000);
        }
        a.shape(0, 5, 5);
        a.shape(7, 5, 5);
        a.shape(15, 5, 5);
        Due.is("tick", a.tick(1), 3);
        return a;
    }

    private static List<Integer> pairs(TickArena a) {
        int size = a.save();
        List<Integer> bytes = Due.bytes(a, false);
        int place = 5;
        for (int slot = 0; slot <= 15; slot++) {
            int kind = bytes.get(place + 2);
            place += kind == 0 ? 3 : 9 + (kind & 2) + (kind & 4) / 2;
        }
        return bytes.subList(place, size - 2);
    }

    private static void pairsGo() {
        Due.sentence("When a thing goes, so do the pairs with its slot.");
        Due.is("pairs", pairs(threeTouching()), Due.list(3, 0x07, 0x0f, 0x7f));
        int[][] rows = {{0, 0x7f}, {7, 0x0f}, {15, 0x07}};
        for (int[] row : rows) {
            TickArena a = threeTouching();
            a.destroy(row[0]);
            Due.is("pairs behind destroy(" + row[0] + ")", pairs(a), Due.list(1, row[1]));
            TickArena b = threeTouching();
            b.destroy(row[0]);
            Due.is("tick behind destroy(" + row[0] + ")", b.tick(1), 1);
            Due.is("events", Due.events(b), Due.list(1, row[1] / 16, row[1] % 16));
            TickArena c = threeTouching();
            c.destroy(row[0]);
            int handle = c.create(2000, 2000);
            Due.is("the slot is taken again", handle, row[0] + 16);
            c.shape(handle, 5, 5);
            Due.is("pairs before the next tick", pairs(c), Due.list(1, row[1]));
            Due.is("tick", c.tick(1), 3);
            Due.is("kinds", c.event(0, 0) + 10 * c.event(1, 0) + 100 * c.event(2, 0),
                    row[0] == 0 ? 100 : row[0] == 7 ? 10 : 1);
        }
        TickArena other = threeTouching();
        other.destroy(14);
        Due.is("pairs behind the end of a thing without any", pairs(other), Due.list(3, 0x07, 0x0f, 0x7f));
    }

    private static void pairsGoWithATimer() {
        Due.sentence("When a thing goes, so do the pairs with its slot.");
        int[][] rows = {{0, 0x7f}, {7, 0x0f}, {15, 0x07}};
        for (int[] row : rows) {
            TickArena a = threeTouching();
            a.timer(row[0], 1);
            Due.is("tick in which " + row[0] + " goes", a.tick(1), 1);
            Due.is("no end of a pair that went", Due.events(a), Due.list(1, row[1] / 16, row[1] % 16));
            Due.is("pairs", pairs(a), Due.list(1, row[1]));
        }
        TickArena all = threeTouching();
        all.timer(0, 1);
        all.timer(7, 1);
        all.timer(15, 1);
        Due.is("tick in which all go", all.tick(1), 0);
        Due.is("pairs", pairs(all), Due.list(0));
    }

    private static void clockGrows() {
        Due.sentence("A TICK: the clock grows by 1.");
        int[][] rows = {{0, 0, 0, 0, 0}, {0, 0, 0, 255, 255}, {0, 0, 255, 255, 65535}, {0, 255, 255, 255, 16777215}};
        for (int[] row : rows) {
            TickArena a = atClock(row[0], row[1], row[2], row[3]);
            Due.is("clock", a.clock(), row[4]);
            a.tick(1);
            Due.is("clock behind tick(1)", a.clock(), row[4] + 1);
            a.tick(50);
            Due.is("clock behind tick(50)", a.clock(), row[4] + 51);
        }
    }

    private static final String TIMERS = "Each timer, slot by slot, gets less by 1; at 0 the thing goes.";

    private static void timers() {
        Due.sentence(TIMERS);
        int[][] rows = {{1, 1}, {2, 2}, {50, 50}, {51, 50}, {2, 1}, {60000, 1}, {60000, 50}, {257, 1}, {256, 1}};
        for (int[] row : rows) {
            TickArena a = new TickArena();
            a.create(5, 5);
            a.timer(0, row[0]);
            a.tick(row[1]);
            boolean stays = row[0] > row[1];
            Due.is("good behind tick(" + row[1] + ") with a timer of " + row[0], a.good(0), stays);
            if (stays) {
                Due.is("the timer", a.about(0, 6), row[0] - row[1]);
            } else {
                Due.is("the slot is empty", a.handleOf(0), TickArena.NONE);
                Due.is("create there", a.create(5, 5), 16);
            }
        }
        TickArena without = new TickArena();
        without.create(5, 5);
        without.create(5, 5);
        without.timer(1, 1);
        without.timer(1, 0);
        without.tick(50);
        Due.is("good without a timer", without.good(0) && without.good(1), true);
        Due.is("no timer behind ticks", without.about(0, 6) + without.about(1, 6), 0);
    }

    /** All of them in the same tick, and before anything moves: what goes is at its old place still. */
    private static void timersSlotBySlot() {
        Due.sentence(TIMERS);
        TickArena a = new TickArena();
        for (int slot = 0; slot <= 15; slot++) {
            a.create(2000, 2000);
            a.timer(slot, slot % 2 + 1);
        }
        a.tick(1);
        for (int slot = 0; slot <= 15; slot++) {
            Due.is("handleOf(" + slot + ")", a.handleOf(slot), slot % 2 == 0 ? TickArena.NONE : slot);
        }
        a.tick(1);
        for (int slot = 0; slot <= 15; slot++) {
            Due.is("handleOf(" + slot + ")", a.handleOf(slot), TickArena.NONE);
        }
        TickArena b = new TickArena();
        b.create(100, 100);
        b.create(150, 100);
        b.shape(0, 10, 10);
        b.shape(1, 10, 10);
        b.speed(0, 50, 0);
        b.timer(0, 1);
        Due.is("a thing that goes meets nothing", b.tick(1), 0);
    }

    /** Place and speed before a tick, and after it. */
    private static void bounce(int[][] rows) {
        for (int[] row : rows) {
            String what = " from " + row[0] + " with " + row[1];
            TickArena a = new TickArena();
            a.create(row[0], 1000);
            a.create(1000, row[0]);
            a.speed(0, row[1], 1);
            a.speed(1, 1, row[1]);
            a.tick(1);
            Due.is("x" + what, a.about(0, 0), row[2]);
            Due.is("vx" + what, a.about(0, 2), row[3]);
            Due.is("y of the same", a.about(0, 1), 1001);
            Due.is("vy of the same", a.about(0, 3), 1);
            Due.is("y" + what, a.about(1, 1), row[2]);
            Due.is("vy" + what, a.about(1, 3), row[3]);
            Due.is("x of the same", a.about(1, 0), 1001);
            Due.is("vx of the same", a.about(1, 2), 1);
        }
    }

    private static final String WALLS = "Then each thing moves: x grows by vx; if it is less than 0 then, x and vx change"
            + " their signs; if it is more than 4095, x becomes 8190 - x, and vx changes its sign; y and vy likewise.";

    private static void lowWall() {
        Due.sentence(WALLS);
        bounce(new int[][] {
            {1, -1, 0, -1}, {0, -1, 1, 1}, {2, -1, 1, -1}, {1, -2, 1, 2},
            {100, -100, 0, -100}, {99, -100, 1, 100}, {1, -100, 99, 100}, {0, -100, 100, 100},
            {0, 0, 0, 0}, {0, 1, 1, 1}, {0, 100, 100, 100}});
    }

    private static void highWall() {
        Due.sentence(WALLS);
        bounce(new int[][] {
            {4094, 1, 4095, 1}, {4095, 1, 4094, -1}, {4093, 1, 4094, 1}, {4094, 2, 4094, -2},
            {3995, 100, 4095, 100}, {3996, 100, 4094, -100}, {4094, 100, 3996, -100}, {4095, 100, 3995, -100},
            {4095, 0, 4095, 0}, {4095, -1, 4094, -1}, {4095, -100, 3995, -100}});
    }

    private static void wallsOfBothAxes() {
        Due.sentence(WALLS);
        int[][] rows = {{0, 0, -3, -5, 3, 5, 3, 5}, {4095, 4095, 3, 5, 4092, 4090, -3, -5},
            {0, 4095, -3, 5, 3, 4090, 3, -5}, {4095, 0, 3, -5, 4092, 5, -3, 5}};
        for (int[] row : rows) {
            TickArena a = new TickArena();
            a.create(row[0], row[1]);
            a.speed(0, row[2], row[3]);
            a.tick(1);
            for (int what = 0; what < 4; what++) {
                Due.is("about(0, " + what + ") behind a corner", a.about(0, what), row[4 + what]);
            }
        }
    }

    /** 0 to 100, then up to 4000 in the 40th tick, thrown back to 4090 in the 41st, 3190 in the 50th. */
    private static void manyBounces() {
        Due.sentence(WALLS);
        TickArena a = new TickArena();
        a.create(0, 4095);
        a.speed(0, -100, 100);
        a.tick(50);
        Due.is("x", a.about(0, 0), 3190);
        Due.is("vx", a.about(0, 2), -100);
        // 4095 to 3995, down to 95 in the 40th tick, thrown back to 5 in the 41st, 905 in the 50th.
        Due.is("y", a.about(0, 1), 905);
        Due.is("vy", a.about(0, 3), 100);
    }

    /** A thing of half width 10 at rest, and one of 5 at so many to the right of it. */
    private static TickArena pairAt(int distance) {
        TickArena a = new TickArena();
        a.create(1000, 1000);
        a.create(1000 + distance, 1000);
        a.shape(0, 10, 10);
        a.shape(1, 5, 5);
        return a;
    }

    private static void eventsInPlaceOfThoseBefore() {
        Due.sentence("Then the EVENTS are made, in place of those before");
        TickArena a = pairAt(14);
        Due.is("tick", a.tick(1), 1);
        Due.is("tick", a.tick(1), 1);
        Due.is("one event, of the last tick", Due.events(a), Due.list(1, 0, 1));
        a.speed(1, 1, 0);
        Due.is("ticks of which only the first has an event", a.tick(2), 0);
        Due.is("no event", Due.events(a), Due.list());
        a.speed(1, -1, 0);
        Due.is("ticks of which only the last has an event", a.tick(2), 1);
        Due.is("a begin", Due.events(a), Due.list(0, 0, 1));
    }

    private static void orderOfEvents() {
        Due.sentence("going over all pairs a, b of slots by a, and then b, ascending");
        TickArena a = new TickArena();
        for (int slot = 0; slot <= 15; slot++) {
            a.create(2000, 2000);
            a.shape(slot, 1, 1);
        }
        Due.is("tick of all pairs", a.tick(1), 120);
        int k = 0;
        for (int first = 0; first < 15; first++) {
            for (int second = first + 1; second <= 15; second++) {
                Due.is("event " + k, 256 * a.event(k, 0) + 16 * a.event(k, 1) + a.event(k, 2), 16 * first + second);
                k++;
            }
        }
        Due.refusesIndex("event 120", () -> a.event(120, 0));
        // Ends, stays and begins stand among one another, by their slots alone.
        TickArena b = new TickArena();
        for (int slot = 0; slot <= 3; slot++) {
            b.create(2000, 2000);
            b.shape(slot, 1, 1);
        }
        b.speed(3, 2, 0);
        Due.is("tick", b.tick(1), 3);
        b.speed(3, -2, 0);
        b.speed(1, 0, 2);
        Due.is("tick", b.tick(1), 5);
        Due.is("events", Due.events(b), Due.list(2, 0, 1, 1, 0, 2, 0, 0, 3, 2, 1, 2, 0, 2, 3));
    }

    private static void kindsOfEvents() {
        Due.sentence("BEGIN 0 when the things overlap and did not touch, STAY 1 when they overlap and did, END 2 when they"
                + " do not overlap (or one has no shape) and did.");
        TickArena a = pairAt(16);
        Due.is("apart", a.tick(1), 0);
        a.speed(1, -1, 0);
        Due.is("at the sum of the half widths", a.tick(1), 0);
        Due.is("one nearer", a.tick(1), 1);
        Due.is("begin", Due.events(a), Due.list(0, 0, 1));
        Due.is("two nearer", a.tick(1), 1);
        Due.is("stay", Due.events(a), Due.list(1, 0, 1));
        a.speed(1, 1, 0);
        Due.is("one nearer", a.tick(1), 1);
        Due.is("stay", Due.events(a), Due.list(1, 0, 1));
        Due.is("at the sum of the half widths", a.tick(1), 1);
        Due.is("end", Due.events(a), Due.list(2, 0, 1));
        Due.is("apart", a.tick(1), 0);
    }

    private static void endWithoutAShape() {
        Due.sentence("END 2 when they do not overlap (or one has no shape) and did.");
        int[][] rows = {{1, 0}, {0, 1}, {1, 1}};
        for (int[] row : rows) {
            TickArena a = pairAt(0);
            Due.is("tick", a.tick(1), 1);
            for (int slot = 0; slot < 2; slot++) {
                if (row[slot] == 1) {
                    a.shape(slot, 0, 0);
                }
            }
            Due.is("tick", a.tick(1), 1);
            Due.is("end", Due.events(a), Due.list(2, 0, 1));
            Due.is("tick", a.tick(1), 0);
        }
    }

    private static void whatTouchesAfterwards() {
        Due.sentence("After that just those that overlap touch.");
        TickArena a = pairAt(14);
        a.tick(1);
        Due.is("pairs behind a begin", pairs(a), Due.list(1, 1));
        a.tick(1);
        Due.is("pairs behind a stay", pairs(a), Due.list(1, 1));
        a.speed(1, 1, 0);
        Due.is("pairs before the tick of the end", pairs(a), Due.list(1, 1));
        a.tick(1);
        Due.is("pairs behind an end", pairs(a), Due.list(0));
        TickArena b = pairAt(14);
        b.tick(1);
        b.shape(1, 0, 0);
        Due.is("pairs before the tick without a shape", pairs(b), Due.list(1, 1));
        b.tick(1);
        Due.is("pairs behind a tick without a shape", pairs(b), Due.list(0));
    }
}
