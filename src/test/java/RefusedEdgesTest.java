import java.util.function.Consumer;

/** The sentence of "Terms" on calls that throw: nothing changes, and the exception named first is thrown. */
public final class RefusedEdgesTest {
    private static final String THROWS = "A call that throws changes nothing; where several exceptions that a call names"
            + " fit, the one named first is thrown.";

    public static void main(String[] args) {
        Due.sentence(THROWS);
        refusedArguments();
        refusedForRoom();
        refusedForState();
        refusedIndexes();
        firstNamedOfCreate();
        firstNamedOfTheOthers();
        Due.end();
    }

    /** Two things that touch and a third on its way, with timers, an event, and something in the log. */
    private static TickArena busy() {
        TickArena a = Entries.twoThings();
        a.shape(0, 60, 60);
        a.shape(17, 60, 60);
        a.timer(17, 900);
        a.create(4095, 4095);
        a.speed(2, 5, -5);
        a.tick(1);
        a.save();
        a.timer(0, 999);
        a.tick(2);
        return a;
    }

    private static void keeps(String what, Class<? extends RuntimeException> due, Consumer<TickArena> call) {
        Due.changesNothing(what, due, RefusedEdgesTest::busy, call);
    }

    private static void refusedArguments() {
        Class<IllegalArgumentException> due = IllegalArgumentException.class;
        keeps("create(4096, 0)", due, a -> a.create(4096, 0));
        keeps("create(0, -1)", due, a -> a.create(0, -1));
        int[] stale = {1, 16, 33, 3, -1, 1 << 20};
        for (int handle : stale) {
            keeps("destroy(" + handle + ")", due, a -> a.destroy(handle));
            keeps("speed(" + handle + ", 1, 1)", due, a -> a.speed(handle, 1, 1));
            keeps("shape(" + handle + ", 1, 1)", due, a -> a.shape(handle, 1, 1));
            keeps("timer(" + handle + ", 1)", due, a -> a.timer(handle, 1));
            keeps("about(" + handle + ", 0)", due, a -> a.about(handle, 0));
        }
        keeps("speed(0, 101, 0)", due, a -> a.speed(0, 101, 0));
        keeps("speed(0, 0, -101)", due, a -> a.speed(0, 0, -101));
        keeps("shape(0, 0, 1)", due, a -> a.shape(0, 0, 1));
        keeps("shape(0, 1, 0)", due, a -> a.shape(0, 1, 0));
        keeps("shape(0, 201, 200)", due, a -> a.shape(0, 201, 200));
        keeps("shape(0, 200, 201)", due, a -> a.shape(0, 200, 201));
        keeps("timer(0, 60001)", due, a -> a.timer(0, 60001));
        keeps("timer(0, -1)", due, a -> a.timer(0, -1));
        keeps("tick(0)", due, a -> a.tick(0));
        keeps("tick(51)", due, a -> a.tick(51));
        keeps("event(0, 3)", due, a -> a.event(0, 3));
        keeps("under(4096, 0)", due, a -> a.under(4096, 0));
        keeps("corrupt(0, 256, false)", due, a -> a.corrupt(0, 256, false));
        keeps("corrupt(0, -1, true)", due, a -> a.corrupt(0, -1, true));
    }

    private static TickArena busyAndFull() {
        TickArena a = busy();
        Due.leaveRoom(a, 0);
        return a;
    }

    private static void refusedForRoom() {
        for (int kind = 1; kind <= 6; kind++) {
            int which = kind;
            Due.changesNothing("a change of kind " + kind + " with a full log", UnsupportedOperationException.class,
                    () -> {
                        TickArena a = busy();
                        Due.leaveRoom(a, Entries.LENGTHS[which] - 1);
                        return a;
                    },
                    a -> Entries.change(a, which));
        }
        Due.changesNothing("tick(50) with a full log", UnsupportedOperationException.class,
                RefusedEdgesTest::busyAndFull, a -> a.tick(50));
    }

    private static TickArena busyAndUnsound() {
        TickArena a = busy();
        a.corrupt(0, 85, false);
        return a;
    }

    private static TickArena sixteenThings() {
        TickArena a = busy();
        for (int slot = 3; slot <= 15; slot++) {
            a.create(100, 100);
        }
        return a;
    }

    private static void refusedForState() {
        Class<IllegalStateException> due = IllegalStateException.class;
        Due.changesNothing("load", due, RefusedEdgesTest::busyAndUnsound, TickArena::load);
        Due.changesNothing("replay", due, RefusedEdgesTest::busyAndUnsound, TickArena::replay);
        Due.changesNothing("create", due, RefusedEdgesTest::sixteenThings, a -> a.create(1, 1));
        // What is wrong stands in the last bytes: all the world before it has been read by then.
        Due.changesNothing("load", due, RefusedEdgesTest::busyAndUnsealed, TickArena::load);
        Due.changesNothing("replay", due, RefusedEdgesTest::busyAndUnsealed, TickArena::replay);
    }

    private static TickArena busyAndUnsealed() {
        TickArena a = busy();
        int last = a.size(false) - 1;
        a.corrupt(last, (a.at(last, false) + 1) % 251, false);
        return a;
    }

    private static void refusedIndexes() {
        Class<IndexOutOfBoundsException> due = IndexOutOfBoundsException.class;
        keeps("event(-1, 0)", due, a -> a.event(-1, 0));
        keeps("event(1, 0)", due, a -> a.event(1, 0));
        keeps("about(0, -1)", due, a -> a.about(0, -1));
        keeps("about(0, 7)", due, a -> a.about(0, 7));
        keeps("handleOf(-1)", due, a -> a.handleOf(-1));
        keeps("handleOf(16)", due, a -> a.handleOf(16));
        keeps("at(-1, false)", due, a -> a.at(-1, false));
        keeps("at(size, true)", due, a -> a.at(a.size(true), true));
        keeps("corrupt(-1, 0, false)", due, a -> a.corrupt(-1, 0, false));
        keeps("corrupt(size, 0, true)", due, a -> a.corrupt(a.size(true), 0, true));
    }

    /** Room for entries, empty slots, and a place inside: each of them there or not. */
    private static void firstNamedOfCreate() {
        for (int which = 0; which < 8; which++) {
            boolean outside = (which & 1) != 0;
            boolean slotless = (which & 2) != 0;
            boolean roomless = (which & 4) != 0;
            TickArena a = slotless ? sixteenThings() : busy();
            Due.leaveRoom(a, roomless ? 4 : 5);
            String what = "create" + (outside ? " outside" : "") + (slotless ? " without a slot" : "")
                    + (roomless ? " without room" : "");
            if (outside) {
                Due.refusesArgument(what, () -> a.create(4096, 0));
            } else if (slotless) {
                Due.refusesState(what, () -> a.create(4095, 0));
            } else if (roomless) {
                Due.refusesForRoom(what, () -> a.create(4095, 0));
            } else {
                Due.is(what, a.create(4095, 0), 3);
            }
        }
    }

    private static void firstNamedOfTheOthers() {
        TickArena a = busyAndFull();
        Due.refusesArgument("destroy of a stale handle without room", () -> a.destroy(1));
        Due.refusesForRoom("destroy without room", () -> a.destroy(0));
        Due.refusesArgument("speed of a stale handle without room", () -> a.speed(1, 1, 1));
        Due.refusesArgument("a wrong speed without room", () -> a.speed(0, 1, 101));
        Due.refusesForRoom("speed without room", () -> a.speed(0, 1, 100));
        Due.refusesArgument("shape of a stale handle without room", () -> a.shape(1, 1, 1));
        Due.refusesArgument("a wrong shape without room", () -> a.shape(0, 0, 1));
        Due.refusesForRoom("shape without room", () -> a.shape(0, 0, 0));
        Due.refusesArgument("timer of a stale handle without room", () -> a.timer(1, 1));
        Due.refusesArgument("a wrong timer without room", () -> a.timer(0, 60001));
        Due.refusesForRoom("timer without room", () -> a.timer(0, 0));
        Due.refusesArgument("tick(51) without room", () -> a.tick(51));
        Due.refusesArgument("tick(0) without room", () -> a.tick(0));
        Due.refusesForRoom("tick(1) without room", () -> a.tick(1));
        TickArena b = busy();
        Due.refusesIndex("event(1, 3)", () -> b.event(1, 3));
        Due.refusesIndex("event(-1, -1)", () -> b.event(-1, -1));
        Due.refusesArgument("event(0, 3)", () -> b.event(0, 3));
        Due.refusesArgument("about(1, 7)", () -> b.about(1, 7));
        Due.refusesIndex("about(0, 7)", () -> b.about(0, 7));
        Due.refusesIndex("corrupt(-1, 256, false)", () -> b.corrupt(-1, 256, false));
        Due.refusesIndex("corrupt(size, -1, true)", () -> b.corrupt(b.size(true), -1, true));
        Due.refusesArgument("corrupt(0, 256, false)", () -> b.corrupt(0, 256, false));
    }
}
