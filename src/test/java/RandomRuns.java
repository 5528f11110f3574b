import java.util.ArrayList;
import java.util.List;
import java.util.Random;
import java.util.function.Supplier;

/** Random runs of at most 512 calls, always the same ones; each answer is that of the model. */
public final class RandomRuns {
    private static final int RUNS = 4000;
    private static final int CALLS = 512;

    private final Random random;
    private final TickArena arena = new TickArena();
    private final Model model = new Model();
    private final int run;
    private int calls = 0;

    private RandomRuns(int run) {
        this.run = run;
        random = new Random(run);
    }

    public static void main(String[] args) {
        for (int run = 0; run < RUNS; run++) {
            new RandomRuns(run).play();
        }
        Due.end();
    }

    private void play() {
        while (calls < CALLS) {
            switch (run % 4) {
                case 0:
                    change();
                    break;
                case 1:
                    changeAndSave();
                    break;
                case 2:
                    spoilTheLog();
                    break;
                default:
                    spoilTheState();
                    break;
            }
        }
    }

    private void changeAndSave() {
        change();
        if (random.nextInt(12) == 0) {
            same("save()", arena::save, model::save);
        }
        if (random.nextInt(20) == 0) {
            load();
        }
        if (random.nextInt(12) == 0) {
            replay();
        }
    }

    private void spoilTheLog() {
        changeAndSave();
        if (random.nextInt(6) == 0) {
            corrupt(some(model.size(true)), random.nextBoolean() ? random.nextInt(8) : random.nextInt(256), true);
            replay();
        }
    }

    private void spoilTheState() {
        changeAndSave();
        if (random.nextInt(8) == 0) {
            corrupt(some(model.size(false)), random.nextBoolean() ? random.nextInt(8) : random.nextInt(256), false);
            if (random.nextInt(4) != 0) {
                seal();
            }
            load();
            replay();
        }
    }

    /** The check is taken from the model's bytes, which spares the arena's calls. */
    private void seal() {
        List<Integer> bytes = new ArrayList<>();
        int end = model.size(false) - 2;
        for (int k = 0; k < end; k++) {
            bytes.add(model.at(k, false));
        }
        List<Integer> check = Due.check(bytes);
        corrupt(end, check.get(0), false);
        corrupt(end + 1, check.get(1), false);
    }

    private void change() {
        int handle = handle();
        int p = number(4096);
        int q = number(4096);
        switch (random.nextInt(16)) {
            case 0:
            case 1:
            case 2:
                int x = random.nextBoolean() ? p : 2000 + random.nextInt(300);
                int y = random.nextBoolean() ? q : 2000 + random.nextInt(300);
                same("create(" + x + ", " + y + ")", () -> arena.create(x, y), () -> model.create(x, y));
                break;
            case 3:
                same("destroy(" + handle + ")", act(() -> arena.destroy(handle)), act(() -> model.destroy(handle)));
                break;
            case 4:
            case 5:
                int vx = number(205) - 102;
                int vy = number(205) - 102;
                same("speed(" + handle + ", " + vx + ", " + vy + ")",
                        act(() -> arena.speed(handle, vx, vy)), act(() -> model.speed(handle, vx, vy)));
                break;
            case 6:
            case 7:
            case 8:
                boolean none = random.nextInt(6) == 0;
                int width = none ? 0 : number(203);
                int height = none ? 0 : number(203);
                same("shape(" + handle + ", " + width + ", " + height + ")",
                        act(() -> arena.shape(handle, width, height)), act(() -> model.shape(handle, width, height)));
                break;
            case 9:
                int n = random.nextBoolean() ? number(60002) : random.nextInt(20);
                same("timer(" + handle + ", " + n + ")",
                        act(() -> arena.timer(handle, n)), act(() -> model.timer(handle, n)));
                break;
            case 10:
            case 11:
            case 12:
                int ticks = random.nextInt(4) == 0 ? number(52) : 1 + random.nextInt(3);
                same("tick(" + ticks + ")", () -> arena.tick(ticks), () -> model.tick(ticks));
                break;
            default:
                ask(handle);
                break;
        }
    }

    private void ask(int handle) {
        int k = random.nextInt(5) - 1;
        int what = random.nextInt(9) - 1;
        boolean log = random.nextBoolean();
        switch (random.nextInt(8)) {
            case 0:
                same("event(" + k + ", " + what % 4 + ")", () -> arena.event(k, what % 4), () -> model.event(k, what % 4));
                break;
            case 1:
                same("good(" + handle + ")", () -> arena.good(handle), () -> model.good(handle));
                break;
            case 2:
                same("about(" + handle + ", " + what + ")", () -> arena.about(handle, what), () -> model.about(handle, what));
                break;
            case 3:
                int slot = number(17);
                same("handleOf(" + slot + ")", () -> arena.handleOf(slot), () -> model.handleOf(slot));
                break;
            case 4:
                int x = random.nextBoolean() ? number(4097) : 2000 + random.nextInt(300);
                int y = random.nextBoolean() ? number(4097) : 2000 + random.nextInt(300);
                same("under(" + x + ", " + y + ")", () -> arena.under(x, y), () -> model.under(x, y));
                break;
            case 5:
                same("clock()", arena::clock, model::clock);
                break;
            case 6:
                same("size(" + log + ")", () -> arena.size(log), () -> model.size(log));
                break;
            default:
                int place = random.nextInt(model.size(log) + 3) - 1;
                same("at(" + place + ", " + log + ")", () -> arena.at(place, log), () -> model.at(place, log));
                break;
        }
    }

    private void load() {
        same("load()", act(arena::load), act(model::load));
    }

    private void replay() {
        same("replay()", arena::replay, model::replay);
    }

    private void corrupt(int k, int b, boolean log) {
        same("corrupt(" + k + ", " + b + ", " + log + ")",
                act(() -> arena.corrupt(k, b, log)), act(() -> model.corrupt(k, b, log)));
    }

    private int some(int size) {
        return random.nextInt(size + 1);
    }

    /** Mostly 0 to most, now and then a little or far outside. */
    private int number(int most) {
        int dice = random.nextInt(40);
        return dice == 0 ? -1 : dice == 1 ? most : dice == 2 ? random.nextInt() : random.nextInt(most);
    }

    /** Mostly a good handle. */
    private int handle() {
        int slot = random.nextInt(16);
        int handle = model.handleOf(slot);
        if (handle == TickArena.NONE || random.nextInt(20) == 0) {
            handle = random.nextInt(4) == 0 ? random.nextInt() : model.handleOf(0) + 16 * (random.nextInt(3) - 1);
        }
        return handle;
    }

    private static Supplier<Object> act(Runnable call) {
        return () -> {
            call.run();
            return "done";
        };
    }

    private void same(String call, Supplier<Object> program, Supplier<Object> due) {
        if (calls < CALLS) {
            calls++;
            Due.is("run " + run + ", call " + calls + ": " + call, outcome(program), outcome(due));
        }
    }

    private static Object outcome(Supplier<Object> call) {
        try {
            return call.get();
        } catch (RuntimeException e) {
            return e.getClass().getName();
        }
    }
}
