import java.util.ArrayList;
import java.util.List;

/** A saved state put together by hand, so that any number in it can be a wrong one. */
final class State {
    private final List<Integer> head = Due.list(84, 0, 0, 0, 0);
    private final List<List<Integer>> slots = new ArrayList<>();
    private List<Integer> pairs = Due.list(0);

    State() {
        for (int i = 0; i < 16; i++) {
            slots.add(Due.list(0, 0, 0));
        }
    }

    /** A thing with all that it can have, at 100, 100: 13 bytes. */
    static int[] full() {
        return new int[] {0, 0, 7, 0, 100, 0, 100, 128, 128, 10, 10, 0, 9};
    }

    /** A thing without shape and timer, at 100, 100: 9 bytes. */
    static int[] bare() {
        return new int[] {0, 0, 1, 0, 100, 0, 100, 128, 128};
    }

    /** The same bytes, but for those from place k on. */
    static int[] with(int[] bytes, int k, int... others) {
        int[] changed = bytes.clone();
        System.arraycopy(others, 0, changed, k, others.length);
        return changed;
    }

    State mark(int mark) {
        head.set(0, mark);
        return this;
    }

    State clock(int... bytes) {
        for (int i = 0; i < 4; i++) {
            head.set(1 + i, bytes[i]);
        }
        return this;
    }

    State slot(int i, int... bytes) {
        slots.set(i, Due.list(bytes));
        return this;
    }

    State slots(int from, int to, int... bytes) {
        for (int i = from; i <= to; i++) {
            slot(i, bytes);
        }
        return this;
    }

    /** How many, and then each. */
    State pairs(int... bytes) {
        pairs = Due.list(bytes);
        return this;
    }

    /** All but the check. */
    List<Integer> body() {
        List<Integer> body = new ArrayList<>(head);
        slots.forEach(body::addAll);
        body.addAll(pairs);
        return body;
    }

    List<Integer> bytes() {
        List<Integer> bytes = body();
        bytes.addAll(Due.check(bytes));
        return bytes;
    }

    /** An object whose saved state is this one, and whose world is another. */
    TickArena arena() {
        return holding(bytes());
    }

    static TickArena holding(List<Integer> bytes) {
        TickArena arena = ofLength(bytes.size());
        for (int k = 0; k < bytes.size(); k++) {
            arena.corrupt(k, bytes.get(k), false);
        }
        return arena;
    }

    void isSound(String what) {
        TickArena loaded = arena();
        loaded.load();
        Due.is("size of the log behind a load of " + what, loaded.size(true), 0);
        Due.is("save behind a load of " + what, loaded.save(), bytes().size());
        Due.is("the bytes behind a load of " + what, Due.bytes(loaded, false), bytes());
        TickArena replayed = arena();
        Due.is("replay of " + what, replayed.replay(), TickArena.NONE);
        replayed.save();
        Due.is("the bytes behind a replay of " + what, Due.bytes(replayed, false), bytes());
    }

    void isNotSound(String what) {
        isNotSound(what, bytes());
    }

    static void isNotSound(String what, List<Integer> bytes) {
        TickArena arena = holding(bytes);
        arena.create(7, 7);
        String before = Due.world(arena);
        Due.refusesState("load of " + what, arena::load);
        Due.refusesState("replay of " + what, arena::replay);
        Due.is("the world behind both for " + what, Due.world(arena), before);
        Due.is("size of the log behind both for " + what, arena.size(true), 5);
    }

    /** Bytes can be written over, but none added: first a world is saved that has so many. */
    private static TickArena ofLength(int length) {
        for (int things = 0; things <= 15; things++) {
            for (int pairs = 0; pairs < Math.max(things, 1); pairs++) {
                int rest = length - 56 - 6 * things - pairs;
                if (rest >= 0 && rest % 2 == 0 && rest / 2 <= 2 * things) {
                    return ofLength(things, pairs, rest / 2);
                }
            }
        }
        throw new AssertionError("no world has a state of " + length + " bytes");
    }

    private static TickArena ofLength(int things, int pairs, int extras) {
        TickArena arena = new TickArena();
        for (int i = 0; i < things; i++) {
            arena.create(100 * i, 3000);
        }
        chain(arena, pairs);
        arena.save();
        for (int i = 0; i < extras; i++) {
            if (i < things) {
                arena.shape(i, 1, 1);
            } else {
                arena.timer(i - things, 60000);
            }
        }
        arena.save();
        return arena;
    }

    /** The first things touch, each the next one, and then lose their shapes. */
    private static void chain(TickArena arena, int pairs) {
        int last = pairs == 0 ? -1 : pairs;
        for (int i = 0; i <= last; i++) {
            arena.shape(i, 60, 60);
        }
        arena.tick(1);
        for (int i = 0; i <= last; i++) {
            arena.shape(i, 0, 0);
        }
    }
}
