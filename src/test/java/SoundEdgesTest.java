import java.util.ArrayList;
import java.util.List;

/** The sentence of "Terms" that says which states are sound, at each of its boundaries. */
public final class SoundEdgesTest {
    private static final int[] EDGE_SLOTS = {0, 15};

    private static final String SOUND = "A state is SOUND when it is the bytes of some world: a clock, generations, things"
            + " and pairs of things in just this form, all numbers in their ranges, pairs ascending, of slots that have"
            + " things.";

    public static void main(String[] args) {
        Due.sentence(SOUND);
        heads();
        generations();
        kinds();
        kindsOfFittingLength();
        numbers();
        pairs();
        pairCounts();
        checks();
        ends();
        Due.end();
    }

    private static void heads() {
        new State().isSound("the state of a new object");
        new State().mark(83).isNotSound("a state with a mark of 83");
        new State().mark(85).isNotSound("a state with a mark of 85");
        new State().mark(0).isNotSound("a state with a mark of 0");
        new State().mark(255).isNotSound("a state with a mark of 255");
        new State().clock(0, 0, 0, 1).isSound("a state with a clock of 1");
        new State().clock(127, 255, 255, 255).isSound("a state with the last clock");
        new State().clock(128, 0, 0, 0).isNotSound("a state with a clock of 2^31");
        new State().clock(255, 255, 255, 255).isNotSound("a state with a clock of 2^32 - 1");
    }

    private static void generations() {
        for (int slot : EDGE_SLOTS) {
            new State().slot(slot, 0, 1, 0).isSound("an empty slot of generation 1");
            new State().slot(slot, 255, 255, 0).isSound("an empty slot of generation 65535");
            new State().slot(slot, State.with(State.full(), 0, 255, 255)).isSound("a thing of generation 65535");
        }
        TickArena a = new State().slot(15, State.with(State.full(), 0, 255, 255)).arena();
        a.load();
        Due.is("handleOf(15)", a.handleOf(15), 1048575);
    }

    /** A slot's kind alone is another: 7 is that of the bytes behind it. */
    private static void kinds() {
        for (int slot : EDGE_SLOTS) {
            for (int kind = 0; kind < 256; kind++) {
                State state = new State().slot(slot, State.with(State.full(), 2, kind));
                if (kind == 7) {
                    state.isSound("a state with the kind 7");
                } else {
                    state.isNotSound("a state with a kind of " + kind + " for 7 in slot " + slot);
                }
            }
        }
    }

    /** As many bytes follow as the kind's bits ask for: of these only 0, 1, 3, 5, 7 are kinds. */
    private static void kindsOfFittingLength() {
        for (int slot : EDGE_SLOTS) {
            for (int kind = 0; kind < 256; kind++) {
                for (int length = 3; length <= 13; length += length == 3 ? 6 : 2) {
                    int[] bytes = new int[length];
                    System.arraycopy(State.full(), 0, bytes, 0, length);
                    bytes[2] = kind;
                    State state = new State().slot(slot, bytes);
                    if (length == lengthOf(kind)) {
                        state.isSound("a slot of kind " + kind);
                    } else {
                        state.isNotSound(length + " bytes of kind " + kind + " in slot " + slot);
                    }
                }
            }
        }
    }

    private static int lengthOf(int kind) {
        switch (kind) {
            case 0:
                return 3;
            case 1:
                return 9;
            case 3:
            case 5:
                return 11;
            case 7:
                return 13;
            default:
                return -1;
        }
    }

    /** Each row: a place in a slot's bytes, what is written there, and whether that is in the range. */
    private static void numbers() {
        int[][] two = {
            {3, 0, 0, 1}, {3, 15, 255, 1}, {3, 16, 0, 0}, {3, 255, 255, 0}, {3, 128, 0, 0},
            {5, 0, 0, 1}, {5, 15, 255, 1}, {5, 16, 0, 0}, {5, 255, 255, 0}, {5, 128, 0, 0},
            {11, 0, 0, 0}, {11, 0, 1, 1}, {11, 1, 0, 1}, {11, 234, 96, 1}, {11, 234, 97, 0}, {11, 235, 0, 0},
            {11, 255, 255, 0},
            {7, 28, 228, 1}, {7, 228, 28, 1}, {7, 27, 128, 0}, {7, 229, 128, 0}, {7, 128, 27, 0}, {7, 128, 229, 0},
            {7, 0, 128, 0}, {7, 128, 0, 0}, {7, 255, 128, 0}, {7, 128, 255, 0},
            {9, 1, 1, 1}, {9, 200, 200, 1}, {9, 0, 0, 0}, {9, 0, 1, 0}, {9, 1, 0, 0}, {9, 201, 1, 0}, {9, 1, 201, 0},
            {9, 255, 1, 0}, {9, 1, 255, 0}};
        for (int slot : EDGE_SLOTS) {
            for (int[] row : two) {
                State state = new State().slot(slot, State.with(State.full(), row[0], row[1], row[2]));
                String what = "a thing in slot " + slot + " with " + row[1] + ", " + row[2] + " at " + row[0];
                if (row[3] == 1) {
                    state.isSound(what);
                } else {
                    state.isNotSound(what);
                }
            }
        }
    }

    private static State fourThings() {
        return new State().slot(0, State.full()).slot(1, State.bare()).slot(14, State.bare()).slot(15, State.full());
    }

    /** Slots 0, 1, 14, 15 have things, two of them without shapes, all at one place. */
    private static void pairs() {
        fourThings().pairs(6, 0x01, 0x0e, 0x0f, 0x1e, 0x1f, 0xef).isSound("all pairs of four things");
        int[] good = {0x01, 0x0e, 0x0f, 0x1e, 0x1f, 0xef};
        for (int pair : good) {
            fourThings().pairs(1, pair).isSound("the pair " + pair);
            fourThings().pairs(2, pair, pair).isNotSound("the pair " + pair + " twice");
        }
        for (int pair = 0; pair < 256; pair++) {
            boolean known = false;
            for (int one : good) {
                known |= one == pair;
            }
            if (!known) {
                fourThings().pairs(1, pair).isNotSound("the pair " + pair);
            }
        }
        for (int i = 1; i < good.length; i++) {
            fourThings().pairs(2, good[i - 1], good[i]).isSound("two pairs ascending");
            fourThings().pairs(2, good[i], good[i - 1]).isNotSound("two pairs descending");
        }
        fourThings().pairs(3, 0x01, 0x1e, 0x0f).isNotSound("pairs not by a");
        fourThings().pairs(3, 0x01, 0x0f, 0x0e).isNotSound("pairs not by b");
        pairsOfThingsApart();
    }

    /** The sentence asks of a pair that both slots have things, not that these have shapes or are near. */
    private static void pairsOfThingsApart() {
        State apart = new State().slot(0, State.full()).slot(1, State.with(State.full(), 3, 15, 255)).pairs(1, 0x01);
        apart.isSound("a pair of things that are far apart");
        TickArena a = apart.arena();
        a.load();
        Due.is("tick", a.tick(1), 1);
        Due.is("the end of that pair", Due.events(a), Due.list(2, 0, 1));
    }

    private static void pairCounts() {
        fourThings().pairs(0).isSound("no pair");
        fourThings().pairs(0, 0x01).isNotSound("one pair, told as none");
        fourThings().pairs(2, 0x01).isNotSound("one pair, told as two");
        fourThings().pairs(1, 0x01, 0x0e).isNotSound("two pairs, told as one");
        fourThings().pairs(255, 0x01).isNotSound("one pair, told as 255");
        new State().pairs(1).isNotSound("no pair, told as one");
        new State().pairs(255).isNotSound("no pair, told as 255");
        TickArena a = allTouching();
        Due.is("save", a.save(), 304);
        Due.is("how many pairs", a.at(181, false), 120);
        List<Integer> bytes = Due.bytes(a, false);
        TickArena b = allTouching();
        b.save();
        b.load();
        Due.is("all pairs stay", b.tick(1), 120);
        int[] wrong = {119, 121, 0, 255};
        for (int count : wrong) {
            TickArena c = allTouching();
            c.save();
            writeOver(c, bytes, 181, count);
            Due.refusesState("load of 120 pairs, told as " + count, c::load);
        }
    }

    private static TickArena allTouching() {
        TickArena a = new TickArena();
        for (int slot = 0; slot <= 15; slot++) {
            a.create(100, 100);
            a.shape(slot, 1, 1);
        }
        a.tick(1);
        return a;
    }

    /** One byte and the check that is due then. */
    private static void writeOver(TickArena a, List<Integer> bytes, int k, int b) {
        List<Integer> body = new ArrayList<>(bytes.subList(0, bytes.size() - 2));
        body.set(k, b);
        List<Integer> check = Due.check(body);
        a.corrupt(k, b, false);
        a.corrupt(body.size(), check.get(0), false);
        a.corrupt(body.size() + 1, check.get(1), false);
    }

    /** Every other byte in place of each of the two is wrong, 251 more too. */
    private static void checks() {
        List<State> states = List.of(new State(), fourThings(), new State().clock(0, 0, 0, 166));
        for (State state : states) {
            state.isSound("a state with its check");
            int size = state.bytes().size();
            for (int k = size - 2; k < size; k++) {
                for (int b = 0; b < 256; b++) {
                    List<Integer> bytes = state.bytes();
                    if (bytes.get(k) != b) {
                        bytes.set(k, b);
                        State.isNotSound("a state with " + b + " at " + k, bytes);
                    }
                }
            }
        }
        List<Integer> turned = fourThings().bytes();
        int size = turned.size();
        int d = turned.get(size - 2);
        turned.set(size - 2, turned.get(size - 1));
        turned.set(size - 1, d);
        State.isNotSound("a state whose check is c, d", turned);
        unknownToTheCheck();
    }

    private static void unknownToTheCheck() {
        int size = fourThings().bytes().size();
        for (int k = 0; k < size - 2; k++) {
            List<Integer> bytes = fourThings().bytes();
            bytes.set(k, (bytes.get(k) + 1) % 256);
            State.isNotSound("a state with one more at " + k + " and the check of before", bytes);
        }
    }

    /** Bytes behind the check, with the check just behind the world or at the end of all. */
    private static void ends() {
        int[] extras = {6, 8, 12, 13};
        for (int extra : extras) {
            List<Integer> left = new State().bytes();
            for (int i = 0; i < extra; i++) {
                left.add(0);
            }
            State.isNotSound(extra + " bytes behind the check", left);
            List<Integer> between = new State().body();
            for (int i = 0; i < extra; i++) {
                between.add(0);
            }
            between.addAll(Due.check(between));
            State.isNotSound(extra + " bytes before the check", between);
        }
        State one = new State().slot(0, State.bare()).slot(1, State.bare());
        List<Integer> behind = one.bytes();
        behind.add(0);
        State.isNotSound("one byte behind the check", behind);
        List<Integer> before = one.body();
        before.add(0);
        before.addAll(Due.check(before));
        State.isNotSound("one byte before the check", before);
        cutOff();
    }

    /** So many bytes are cut off the end of a state of three things, with a check anew or without. */
    private static void cutOff() {
        List<Integer> whole = new State().slots(0, 2, State.full()).bytes();
        int[] lengths = {56, 62, 64, 66, 68, 70, 72, 74, 76, 78, 80, 82, 84};
        for (int length : lengths) {
            State.isNotSound("a state cut off behind " + length, new ArrayList<>(whole.subList(0, length)));
            List<Integer> sealed = new ArrayList<>(whole.subList(0, length - 2));
            sealed.addAll(Due.check(sealed));
            State.isNotSound("a state cut off and sealed behind " + length, sealed);
        }
    }
}
