import java.util.ArrayList;
import java.util.List;

/** What the tests share: each answer beside the one that is due, and the making of sealed states. */
final class Due {
    private static int checked = 0;
    private static int wrong = 0;

    private Due() {
    }

    static void is(String what, long got, long want) {
        checked++;
        if (got != want) {
            tell(what + " answered " + got + ", due is " + want);
        }
    }

    static void is(String what, boolean got, boolean want) {
        is(what, got ? 1 : 0, want ? 1 : 0);
    }

    static void is(String what, Object got, Object want) {
        checked++;
        if (!got.equals(want)) {
            tell(what + " answered " + got + ", due is " + want);
        }
    }

    /** The class must be the very one: IndexOutOfBoundsException and its subclasses are told apart. */
    static void refuses(String what, Class<? extends RuntimeException> due, Runnable call) {
        checked++;
        try {
            call.run();
            tell(what + " threw nothing, due is " + due.getSimpleName());
        } catch (RuntimeException e) {
            if (e.getClass() != due) {
                tell(what + " threw " + e + ", due is " + due.getSimpleName());
            }
        }
    }

    static void refusesArgument(String what, Runnable call) {
        refuses(what, IllegalArgumentException.class, call);
    }

    static void refusesIndex(String what, Runnable call) {
        refuses(what, IndexOutOfBoundsException.class, call);
    }

    static void refusesState(String what, Runnable call) {
        refuses(what, IllegalStateException.class, call);
    }

    static void refusesForRoom(String what, Runnable call) {
        refuses(what, UnsupportedOperationException.class, call);
    }

    private static void tell(String text) {
        wrong++;
        System.out.println(text);
    }

    static void end() {
        System.out.println(checked + " answers looked at, " + wrong + " not as due");
        if (wrong != 0) {
            System.exit(1);
        }
    }

    static List<Integer> bytes(TickArena arena, boolean log) {
        List<Integer> bytes = new ArrayList<>();
        int size = arena.size(log);
        for (int k = 0; k < size; k++) {
            bytes.add(arena.at(k, log));
        }
        return bytes;
    }

    static List<Integer> list(int... numbers) {
        List<Integer> list = new ArrayList<>();
        for (int number : numbers) {
            list.add(number);
        }
        return list;
    }

    /** The check of the bytes before it: d, c. */
    static List<Integer> check(List<Integer> bytes) {
        int c = 1;
        int d = 0;
        for (int b : bytes) {
            c = (c + b) % 251;
            d = (d + c) % 251;
        }
        return list(d, c);
    }

    /** Writes the check that is due over the last two bytes of the saved state. */
    static void seal(TickArena arena) {
        List<Integer> bytes = bytes(arena, false);
        int end = bytes.size() - 2;
        List<Integer> check = check(bytes.subList(0, end));
        arena.corrupt(end, check.get(0), false);
        arena.corrupt(end + 1, check.get(1), false);
    }

    /** Writes bytes over the saved state from place k on, and seals it. */
    static void write(TickArena arena, int k, int... bytes) {
        for (int i = 0; i < bytes.length; i++) {
            arena.corrupt(k + i, bytes[i], false);
        }
        seal(arena);
    }

    /** All that can be asked without changing anything. */
    static String picture(TickArena arena) {
        StringBuilder text = new StringBuilder();
        text.append("clock ").append(arena.clock());
        for (int slot = 0; slot < 16; slot++) {
            int handle = arena.handleOf(slot);
            text.append(" | ").append(handle);
            for (int what = 0; handle != TickArena.NONE && what < 7; what++) {
                text.append(' ').append(arena.about(handle, what));
            }
        }
        text.append(" | state ").append(bytes(arena, false));
        text.append(" | log ").append(bytes(arena, true));
        return text.append(" | events ").append(events(arena)).toString();
    }

    /** The events as kind, a, b in turn. */
    static List<Integer> events(TickArena arena) {
        List<Integer> told = new ArrayList<>();
        for (int k = 0; k < 120; k++) {
            try {
                told.add(arena.event(k, 0));
            } catch (IndexOutOfBoundsException e) {
                break;
            }
            told.add(arena.event(k, 1));
            told.add(arena.event(k, 2));
        }
        return told;
    }
}
