import java.util.ArrayList;
import java.util.Arrays;
import java.util.List;
import java.util.function.Consumer;

/** The sentences of "Terms" that name a boundary of the bytes: state, check, log, and the room in it. */
public final class BytesEdgesTest {
    private static final int[] EDGE_SLOTS = {0, 15};

    public static void main(String[] args) {
        highestFirst();
        stateOfEachKind();
        stateOfPairs();
        check();
        logEntries();
        whatAddsEntries();
        roomForOneEntry();
        roomForTicks();
        whenTheLogIsEmpty();
        Due.end();
    }

    private static void highestFirst() {
        Due.sentence("Numbers of several bytes have the highest first.");
        int[][] rows = {{0, 0, 0}, {255, 0, 255}, {256, 1, 0}, {4095, 15, 255}};
        for (int[] row : rows) {
            TickArena a = new TickArena();
            a.create(row[0], 0);
            a.create(0, row[0]);
            Due.is("the log", Due.bytes(a, true), Due.list(1, row[1], row[2], 0, 0, 1, 0, 0, row[1], row[2]));
            a.save();
            Due.is("x in the state", Due.bytes(a, false).subList(8, 12), Due.list(row[1], row[2], 0, 0));
            Due.is("y in the state", Due.bytes(a, false).subList(17, 21), Due.list(0, 0, row[1], row[2]));
        }
        timerHighestFirst();
        handleHighestFirst();
        clockHighestFirst();
    }

    private static void timerHighestFirst() {
        int[][] rows = {{1, 0, 1}, {255, 0, 255}, {256, 1, 0}, {60000, 234, 96}};
        for (int[] row : rows) {
            TickArena a = new TickArena();
            a.create(0, 0);
            a.timer(0, row[0]);
            Due.is("the timer in the log", Due.bytes(a, true).subList(9, 11), Due.list(row[1], row[2]));
            a.save();
            Due.is("the timer in the state", Due.bytes(a, false).subList(14, 16), Due.list(row[1], row[2]));
        }
    }

    /** Generation of slot 15, and the three bytes of the handle. */
    private static void handleHighestFirst() {
        int[][] rows = {{0, 0, 0, 15}, {15, 0, 0, 255}, {16, 0, 1, 15}, {4095, 0, 255, 255}, {4096, 1, 0, 15},
            {65535, 15, 255, 255}};
        for (int[] row : rows) {
            int handle = 15 + 16 * row[0];
            State state = new State().slots(0, 14, State.bare());
            TickArena a = state.slot(15, State.with(State.bare(), 0, row[0] / 256, row[0] % 256)).arena();
            a.load();
            Due.is("handleOf(15)", a.handleOf(15), handle);
            a.speed(handle, 0, 0);
            a.shape(handle, 1, 1);
            a.timer(handle, 1);
            a.destroy(handle);
            List<Integer> log = Due.bytes(a, true);
            for (int start = 0; start <= 18; start += 6) {
                Due.is("the handle in the log", log.subList(start + 1, start + 4), Due.list(row[1], row[2], row[3]));
            }
            int next = (row[0] + 1) % 65536;
            a.save();
            Due.is("the generation in the state", Due.bytes(a, false).subList(140, 143),
                    Due.list(next / 256, next % 256, 0));
        }
    }

    private static void clockHighestFirst() {
        int[][] rows = {{0, 0, 0, 255}, {0, 0, 1, 0}, {0, 0, 255, 255}, {0, 1, 0, 0}, {0, 255, 255, 255}, {1, 0, 0, 0}};
        for (int i = 0; i < rows.length; i += 2) {
            TickArena a = new State().clock(rows[i]).arena();
            a.load();
            a.tick(1);
            a.save();
            Due.is("the clock in the state", Due.bytes(a, false).subList(1, 5), Due.list(rows[i + 1]));
        }
    }

    private static final String STATE = "THE STATE: 84, the clock (4 bytes); for each slot its generation (2) and 0 if it"
            + " is empty, otherwise 1 + 2 with a shape + 4 with a timer, then x (2), y (2), vx + 128, vy + 128, with a shape"
            + " half width and half height, with a timer that (2)";

    private static void stateOfEachKind() {
        Due.sentence(STATE);
        for (int slot : EDGE_SLOTS) {
            savedSlot(slot, a -> { }, 0, 0, 1, 15, 255, 0, 0, 128, 128);
            savedSlot(slot, a -> a.speed(slot, -100, 100), 0, 0, 1, 15, 255, 0, 0, 28, 228);
            savedSlot(slot, a -> a.speed(slot, 100, -100), 0, 0, 1, 15, 255, 0, 0, 228, 28);
            savedSlot(slot, a -> a.shape(slot, 1, 200), 0, 0, 3, 15, 255, 0, 0, 128, 128, 1, 200);
            savedSlot(slot, a -> a.timer(slot, 60000), 0, 0, 5, 15, 255, 0, 0, 128, 128, 234, 96);
            savedSlot(slot, a -> {
                a.shape(slot, 200, 1);
                a.timer(slot, 1);
            }, 0, 0, 7, 15, 255, 0, 0, 128, 128, 200, 1, 0, 1);
            savedSlot(slot, a -> {
                a.shape(slot, 200, 1);
                a.timer(slot, 1);
                a.shape(slot, 0, 0);
                a.timer(slot, 0);
            }, 0, 0, 1, 15, 255, 0, 0, 128, 128);
            savedSlot(slot, a -> {
                a.shape(slot, 1, 1);
                a.timer(slot, 1);
                a.destroy(slot);
            }, 0, 1, 0);
        }
    }

    private static void savedSlot(int slot, Consumer<TickArena> change, int... due) {
        TickArena a = new TickArena();
        for (int i = 0; i <= slot; i++) {
            a.create(i == slot ? 4095 : 100, i == slot ? 0 : 100);
        }
        change.accept(a);
        State state = new State().slots(0, slot, State.bare()).slot(slot, due);
        Due.is("save", a.save(), state.bytes().size());
        Due.is("the state", Due.bytes(a, false), state.bytes());
    }

    private static void stateOfPairs() {
        Due.sentence("then how many pairs touch, and for each, by a and then b ascending, a * 16 + b");
        for (int things = 0; things <= 16; things++) {
            TickArena a = new TickArena();
            List<Integer> pairs = new ArrayList<>();
            for (int i = 0; i < things; i++) {
                a.create(100, 100);
                a.shape(i, 1, 1);
            }
            a.tick(1);
            for (int pair = 0; pair < 256; pair++) {
                if (pair / 16 < pair % 16 && pair % 16 < things) {
                    pairs.add(pair);
                }
            }
            Due.is("save", a.save(), 56 + 8 * things + pairs.size());
            int from = 53 + 8 * things;
            Due.is("how many pairs", a.at(from, false), things * (things - 1) / 2);
            Due.is("the pairs", Due.bytes(a, false).subList(from + 1, from + 1 + pairs.size()), pairs);
        }
    }

    /** Clock, d, c: worked out beside the program; c is 250, 0, 1 at 165 to 167, d is 1, 0, 250 at 104, 109, 114. */
    private static void check() {
        Due.sentence("c is 1 and d is 0 at first; for each byte before, c becomes the rest of c + byte by 251,"
                + " and then d that of d + c; the check is d, c.");
        int[][] rows = {{0, 72, 85}, {104, 1, 189}, {109, 0, 194}, {114, 250, 199}, {165, 39, 250}, {166, 89, 0},
            {167, 139, 1}};
        for (int[] row : rows) {
            TickArena a = new TickArena();
            for (int left = row[0]; left > 0; left -= 50) {
                a.tick(Math.min(left, 50));
            }
            Due.is("save", a.save(), 56);
            Due.is("the check at a clock of " + row[0], Due.bytes(a, false).subList(54, 56), Due.list(row[1], row[2]));
        }
    }

    private static void logEntries() {
        Due.sentence("THE LOG, entry by entry: 1 CREATE, x (2), y (2); 2 DESTROY, handle (3); 3 SPEED, handle (3), vx + 128,"
                + " vy + 128; 4 SHAPE, handle (3), half width, half height (0, 0: none any more); 5 TIMER, handle (3),"
                + " timer (2; 0: none any more); 6 TICK.");
        entry(a -> a.create(0, 4095), 1, 0, 0, 15, 255);
        entry(a -> a.create(4095, 0), 1, 15, 255, 0, 0);
        entry(a -> a.destroy(0), 2, 0, 0, 0);
        entry(a -> a.destroy(17), 2, 0, 0, 17);
        entry(a -> a.speed(0, -100, 100), 3, 0, 0, 0, 28, 228);
        entry(a -> a.speed(17, 100, -100), 3, 0, 0, 17, 228, 28);
        entry(a -> a.speed(17, 0, -1), 3, 0, 0, 17, 128, 127);
        entry(a -> a.shape(0, 1, 200), 4, 0, 0, 0, 1, 200);
        entry(a -> a.shape(17, 200, 1), 4, 0, 0, 17, 200, 1);
        entry(a -> a.shape(17, 0, 0), 4, 0, 0, 17, 0, 0);
        entry(a -> a.timer(0, 1), 5, 0, 0, 0, 0, 1);
        entry(a -> a.timer(17, 60000), 5, 0, 0, 17, 234, 96);
        entry(a -> a.timer(17, 0), 5, 0, 0, 17, 0, 0);
        entry(a -> a.tick(1), 6);
        entry(a -> a.tick(2), 6, 6);
        int[] fifty = new int[50];
        Arrays.fill(fifty, 6);
        entry(a -> a.tick(50), fifty);
    }

    private static void entry(Consumer<TickArena> call, int... due) {
        TickArena a = Entries.twoThings();
        call.accept(a);
        Due.is("the log of one call", Due.bytes(a, true), Due.list(due));
        String before = Due.world(a);
        Due.is("replay", a.replay(), TickArena.NONE);
        Due.is("the world behind a replay", Due.world(a), before);
    }

    private static final String ROOM = "Each call that changes the world (create, destroy, speed, shape, timer, tick;"
            + " a tick of n makes n entries) adds its entry to the log; if there is no room for all its entries"
            + " (400 bytes), it throws UnsupportedOperationException and does nothing.";

    private static void whatAddsEntries() {
        Due.sentence(ROOM);
        TickArena a = Entries.twoThings();
        a.tick(3);
        a.good(0);
        a.about(0, 0);
        a.handleOf(0);
        a.under(0, 0);
        a.clock();
        a.size(true);
        a.at(0, true);
        a.corrupt(2, 6, true);
        Due.is("replay", a.replay(), TickArena.NONE);
        Due.refusesArgument("create", () -> a.create(-1, 0));
        Due.refusesArgument("tick", () -> a.tick(0));
        Due.refusesArgument("destroy", () -> a.destroy(1));
        Due.is("size of the log behind calls that change nothing", a.size(true), 3);
        a.speed(0, 0, 0);
        a.shape(0, 0, 0);
        a.timer(0, 0);
        Due.is("size of the log behind calls with what was so before", a.size(true), 21);
    }

    private static TickArena twoThingsAndRoom(int room) {
        TickArena a = Entries.twoThings();
        Due.leaveRoom(a, room);
        return a;
    }

    private static void roomForOneEntry() {
        Due.sentence(ROOM);
        for (int kind = 1; kind <= 6; kind++) {
            int which = kind;
            for (int room = Entries.LENGTHS[kind]; room <= Entries.LENGTHS[kind] + 1; room++) {
                TickArena a = twoThingsAndRoom(room);
                Entries.change(a, kind);
                Due.is("size of the log behind an entry of kind " + kind, a.size(true), 400 - room + Entries.LENGTHS[kind]);
                String before = Due.world(a);
                Due.is("replay of it", a.replay(), TickArena.NONE);
                Due.is("the world behind a replay of it", Due.world(a), before);
            }
            for (int room = 0; room < Entries.LENGTHS[kind]; room++) {
                int left = room;
                Due.changesNothing("an entry of kind " + kind + " with " + room + " bytes left",
                        UnsupportedOperationException.class, () -> twoThingsAndRoom(left), a -> Entries.change(a, which));
            }
        }
    }

    private static void roomForTicks() {
        Due.sentence(ROOM);
        int[] ticks = {1, 2, 49, 50};
        for (int n : ticks) {
            TickArena a = twoThingsAndRoom(n);
            a.tick(n);
            Due.is("size of the log behind tick(" + n + ")", a.size(true), 400);
            Due.is("clock", a.clock(), 400);
            Due.is("replay", a.replay(), TickArena.NONE);
            Due.is("clock behind a replay", a.clock(), 400);
            Due.changesNothing("tick(" + n + ") with one byte less", UnsupportedOperationException.class,
                    () -> twoThingsAndRoom(n - 1), b -> b.tick(n));
        }
        TickArena full = twoThingsAndRoom(0);
        Due.refusesForRoom("tick(1) with a full log", () -> full.tick(1));
        full.save();
        full.tick(50);
        Due.is("size of the log behind save and tick(50)", full.size(true), 50);
    }

    private static void whenTheLogIsEmpty() {
        Due.sentence("The log is empty at first, and after save and load.");
        Due.is("size of the log at first", new TickArena().size(true), 0);
        int[] rooms = {0, 399, 400};
        for (int room : rooms) {
            TickArena saved = twoThingsAndRoom(room);
            saved.save();
            Due.is("size of the log behind a save", saved.size(true), 0);
            Due.refusesIndex("at(0, true) behind a save", () -> saved.at(0, true));
            TickArena loaded = twoThingsAndRoom(room);
            loaded.load();
            Due.is("size of the log behind a load", loaded.size(true), 0);
            loaded.tick(1);
            Due.is("the log behind a load and a tick", Due.bytes(loaded, true), Due.list(6));
            TickArena replayed = twoThingsAndRoom(room);
            replayed.replay();
            Due.is("size of the log behind a replay", replayed.size(true), 400 - room);
            TickArena refused = twoThingsAndRoom(room);
            refused.corrupt(0, 0, false);
            Due.refusesState("load of an unsound state", refused::load);
            Due.is("size of the log behind a load that throws", refused.size(true), 400 - room);
        }
    }
}
