import java.util.ArrayList;
import java.util.HashSet;
import java.util.List;
import java.util.Set;
import java.util.function.Consumer;
import java.util.function.Function;
import java.util.function.Supplier;

/** What the tests share: each answer beside the one that is due, and the making of sealed states. */
final class Due {
    private static int checked = 0;
    private static int wrong = 0;
    private static final Set<String> SENTENCES = new HashSet<>();
    private static String sentence = "";

    private Due() {
    }

    /** The document's sentence that the answers behind this belong to, in its own words. */
    static void sentence(String words) {
        sentence = "\"" + words + "\": ";
        SENTENCES.add(sentence);
    }

    static void is(String what, long got, long want) {
        checked++;
        if (got != want) {
            tell(what + " answered " + got + ", due is " + want);
        }
    }

    static void is(String what, boolean got, boolean want) {
        is(what, got ? 1 : 0, want ? 1 : 0);
    }

    static void is(String what, Object got, Object want) {
        checked++;
        if (!got.equals(want)) {
            tell(what + " answered " + got + ", due is " + want);
        }
    }

    /** The class must be the very one: IndexOutOfBoundsException and its subclasses are told apart. */
    static void refuses(String what, Class<? extends RuntimeException> due, Runnable call) {
        checked++;
        try {
            call.run();
            tell(what + " threw nothing, due is " + due.getSimpleName());
        } catch (RuntimeException e) {
            if (e.getClass() != due) {
                tell(what + " threw " + e + ", due is " + due.getSimpleName());
            }
        }
    }

    static void refusesArgument(String what, Runnable call) {
        refuses(what, IllegalArgumentException.class, call);
    }

    static void refusesIndex(String what, Runnable call) {
        refuses(what, IndexOutOfBoundsException.class, call);
    }

    static void refusesState(String what, Runnable call) {
        refuses(what, IllegalStateException.class, call);
    }

    static void refusesForRoom(String what, Runnable call) {
        refuses(what, UnsupportedOperationException.class, call);
    }

    /** Made twice alike: behind the refused call all that can be asked is as without it. */
    static void changesNothing(String what, Class<? extends RuntimeException> due,
            Supplier<TickArena> make, Consumer<TickArena> call) {
        changesNothing(what, make, a -> refuses(what, due, () -> call.accept(a)));
    }

    static void changesNothing(String what, Supplier<TickArena> make, Consumer<TickArena> call) {
        List<Function<TickArena, Object>> looks = List.of(
                Due::world, Due::events, a -> bytes(a, false), a -> bytes(a, true), Due::savedAnew);
        for (Function<TickArena, Object> look : looks) {
            TickArena called = make.get();
            call.accept(called);
            is("what is seen behind " + what, look.apply(called), look.apply(make.get()));
        }
    }

    /** The touching pairs can be seen in no other way. */
    static List<Integer> savedAnew(TickArena arena) {
        arena.save();
        return bytes(arena, false);
    }

    private static void tell(String text) {
        wrong++;
        System.out.println(sentence + text);
    }

    static void end() {
        if (!SENTENCES.isEmpty()) {
            System.out.print(SENTENCES.size() + " sentences, ");
        }
        System.out.println(checked + " answers looked at, " + wrong + " not as due");
        if (wrong != 0) {
            System.exit(1);
        }
    }

    static List<Integer> bytes(TickArena arena, boolean log) {
        List<Integer> bytes = new ArrayList<>();
        int size = arena.size(log);
        for (int k = 0; k < size; k++) {
            bytes.add(arena.at(k, log));
        }
        return bytes;
    }

    static List<Integer> list(int... numbers) {
        List<Integer> list = new ArrayList<>();
        for (int number : numbers) {
            list.add(number);
        }
        return list;
    }

    /** The check of the bytes before it: d, c. */
    static List<Integer> check(List<Integer> bytes) {
        int c = 1;
        int d = 0;
        for (int b : bytes) {
            c = (c + b) % 251;
            d = (d + c) % 251;
        }
        return list(d, c);
    }

    /** Writes the check that is due over the last two bytes of the saved state. */
    static void seal(TickArena arena) {
        List<Integer> bytes = bytes(arena, false);
        int end = bytes.size() - 2;
        List<Integer> check = check(bytes.subList(0, end));
        arena.corrupt(end, check.get(0), false);
        arena.corrupt(end + 1, check.get(1), false);
    }

    /** Writes bytes over the saved state from place k on, and seals it. */
    static void write(TickArena arena, int k, int... bytes) {
        for (int i = 0; i < bytes.length; i++) {
            arena.corrupt(k + i, bytes[i], false);
        }
        seal(arena);
    }

    /** All that can be asked without changing anything. */
    static String picture(TickArena arena) {
        StringBuilder text = new StringBuilder(world(arena));
        text.append(" | state ").append(bytes(arena, false));
        text.append(" | log ").append(bytes(arena, true));
        return text.append(" | events ").append(events(arena)).toString();
    }

    /** The clock and the things. */
    static String world(TickArena arena) {
        StringBuilder text = new StringBuilder();
        text.append("clock ").append(arena.clock());
        for (int slot = 0; slot < 16; slot++) {
            int handle = arena.handleOf(slot);
            text.append(" | ").append(handle);
            for (int what = 0; handle != TickArena.NONE && what < 7; what++) {
                text.append(' ').append(arena.about(handle, what));
            }
        }
        return text.toString();
    }

    /** The bytes of a log over as many ticks, so that every log can be made; the saved state stays. */
    static void writeLog(TickArena arena, int... bytes) {
        arena.load();
        for (int left = bytes.length; left > 0; left -= 50) {
            arena.tick(Math.min(left, 50));
        }
        for (int k = 0; k < bytes.length; k++) {
            arena.corrupt(k, bytes[k], true);
        }
    }

    /** Ticks until just so much room is left in the log. */
    static void leaveRoom(TickArena arena, int room) {
        for (int left = 400 - room - arena.size(true); left > 0; left -= 50) {
            arena.tick(Math.min(left, 50));
        }
    }

    /** The events as kind, a, b in turn. */
    static List<Integer> events(TickArena arena) {
        List<Integer> told = new ArrayList<>();
        for (int k = 0; k < 120; k++) {
            try {
                told.add(arena.event(k, 0));
            } catch (IndexOutOfBoundsException e) {
                break;
            }
            told.add(arena.event(k, 1));
            told.add(arena.event(k, 2));
        }
        return told;
    }
}
