/** A small world and, for each kind of entry, a call that makes it there. */
final class Entries {
    /** By the kind of the entry, 1 to 6. */
    static final int[] LENGTHS = {0, 5, 4, 6, 6, 6, 1};

    private Entries() {
    }

    /** Slots 0 and 1 have things, of generation 0 and 1. */
    static TickArena twoThings() {
        TickArena a = new TickArena();
        a.create(100, 100);
        a.create(200, 200);
        a.destroy(1);
        a.create(200, 200);
        a.save();
        return a;
    }

    /** The calls that make an entry of kind 1 to 6, on twoThings. */
    static void change(TickArena a, int kind) {
        switch (kind) {
            case 1:
                a.create(1, 2);
                break;
            case 2:
                a.destroy(0);
                break;
            case 3:
                a.speed(0, 1, 2);
                break;
            case 4:
                a.shape(0, 1, 2);
                break;
            case 5:
                a.timer(0, 9);
                break;
            default:
                a.tick(1);
                break;
        }
    }
}
