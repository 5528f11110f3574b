/** A world of up to sixteen things that goes on tick by tick and can be made again from its bytes. */
public final class TickArena {
    public static final int NONE = -1;

    private static final int SLOTS = 16;
    private static final int PAIRS = 120;
    private static final int GENERATIONS = 65536;
    private static final int LAST_CLOCK = 2147483647;
    private static final int LAST_PLACE = 4095;
    private static final int FASTEST = 100;
    private static final int WIDEST = 200;
    private static final int LONGEST_TIMER = 60000;
    private static final int MOST_TICKS = 50;

    private static final int BEGIN = 0;
    private static final int STAY = 1;
    private static final int END = 2;

    /** All slots with shape and timer, and all pairs touching: 5 + 16 * 13 + 1 + 120 + 2. */
    private static final int STATE_ROOM = 336;
    private static final int LOG_ROOM = 400;
    private static final int SPEED_ZERO = 128;

    private World world;
    /** Load and replay make their world here, so that the present one stays when they fail. */
    private World spare;
    private final StateBytes state;
    private final LogBytes entries;

    public TickArena() {
        world = new World();
        spare = new World();
        state = new StateBytes();
        entries = new LogBytes();
        state.write(world);
    }

    public int create(int x, int y)
            throws IllegalArgumentException, IllegalStateException, UnsupportedOperationException {
        if (!isPlace(x, y)) {
            throw new IllegalArgumentException();
        }
        if (world.lowestEmpty() == NONE) {
            throw new IllegalStateException();
        }
        needRoom(LogBytes.CREATE_LENGTH);
        entries.addCreate(x, y);
        return world.addThing(x, y);
    }

    public void destroy(int handle) throws IllegalArgumentException, UnsupportedOperationException {
        needGood(handle);
        needRoom(LogBytes.DESTROY_LENGTH);
        entries.addDestroy(handle);
        world.removeThing(slotNumber(handle));
    }

    public void speed(int handle, int vx, int vy) throws IllegalArgumentException, UnsupportedOperationException {
        needGood(handle);
        if (!isSpeed(vx, vy)) {
            throw new IllegalArgumentException();
        }
        needRoom(LogBytes.SPEED_LENGTH);
        entries.addSpeed(handle, vx, vy);
        world.slotOf(handle).setSpeed(vx, vy);
    }

    public void shape(int handle, int halfWidth, int halfHeight)
            throws IllegalArgumentException, UnsupportedOperationException {
        needGood(handle);
        if (!isShapeOrNone(halfWidth, halfHeight)) {
            throw new IllegalArgumentException();
        }
        needRoom(LogBytes.SHAPE_LENGTH);
        entries.addShape(handle, halfWidth, halfHeight);
        world.slotOf(handle).setShape(halfWidth, halfHeight);
    }

    public void timer(int handle, int n) throws IllegalArgumentException, UnsupportedOperationException {
        needGood(handle);
        if (!isTimerOrNone(n)) {
            throw new IllegalArgumentException();
        }
        needRoom(LogBytes.TIMER_LENGTH);
        entries.addTimer(handle, n);
        world.slotOf(handle).timer = n;
    }

    public int tick(int n) throws IllegalArgumentException, UnsupportedOperationException {
        if (!isWithin(n, 1, MOST_TICKS)) {
            throw new IllegalArgumentException();
        }
        needRoom(n * LogBytes.TICK_LENGTH);
        for (int i = 0; i < n; i++) {
            entries.addTick();
            world.step();
        }
        return world.events.count;
    }

    public int event(int k, int what) throws IndexOutOfBoundsException, IllegalArgumentException {
        Events events = world.events;
        if (!events.has(k)) {
            throw new IndexOutOfBoundsException();
        }
        switch (what) {
            case 0:
                return events.kinds[k];
            case 1:
                return firstOf(events.pairs[k]);
            case 2:
                return secondOf(events.pairs[k]);
            default:
                throw new IllegalArgumentException();
        }
    }

    public boolean good(int handle) {
        return world.isGood(handle);
    }

    public int about(int handle, int what) throws IllegalArgumentException, IndexOutOfBoundsException {
        needGood(handle);
        Slot slot = world.slotOf(handle);
        switch (what) {
            case 0:
                return slot.x;
            case 1:
                return slot.y;
            case 2:
                return slot.vx;
            case 3:
                return slot.vy;
            case 4:
                return slot.halfWidth;
            case 5:
                return slot.halfHeight;
            case 6:
                return slot.timer;
            default:
                throw new IndexOutOfBoundsException();
        }
    }

    public int handleOf(int slot) throws IndexOutOfBoundsException {
        if (!isWithin(slot, 0, SLOTS - 1)) {
            throw new IndexOutOfBoundsException();
        }
        return world.slots[slot].taken ? world.handleIn(slot) : NONE;
    }

    public int under(int x, int y) throws IllegalArgumentException {
        if (!isPlace(x, y)) {
            throw new IllegalArgumentException();
        }
        return world.covering(x, y);
    }

    public int clock() {
        return world.clock;
    }

    public int save() {
        state.write(world);
        entries.bytes.clear();
        world.events.clear();
        return state.bytes.count;
    }

    public void load() throws IllegalStateException {
        if (!state.readInto(spare)) {
            throw new IllegalStateException();
        }
        entries.bytes.clear();
        takeSpare();
    }

    public int replay() throws IllegalStateException {
        if (!state.readInto(spare)) {
            throw new IllegalStateException();
        }
        int refused = entries.redoOn(spare);
        if (refused == NONE) {
            takeSpare();
        }
        return refused;
    }

    public int size(boolean log) {
        return bytesOf(log).count;
    }

    public int at(int k, boolean log) throws IndexOutOfBoundsException {
        Bytes bytes = bytesOf(log);
        if (!bytes.has(k)) {
            throw new IndexOutOfBoundsException();
        }
        return bytes.row[k];
    }

    public void corrupt(int k, int b, boolean log) throws IndexOutOfBoundsException, IllegalArgumentException {
        Bytes bytes = bytesOf(log);
        if (!bytes.has(k)) {
            throw new IndexOutOfBoundsException();
        }
        if (!isWithin(b, 0, 255)) {
            throw new IllegalArgumentException();
        }
        bytes.row[k] = b;
    }

    private Bytes bytesOf(boolean log) {
        return log ? entries.bytes : state.bytes;
    }

    private void needGood(int handle) {
        if (!world.isGood(handle)) {
            throw new IllegalArgumentException();
        }
    }

    private void needRoom(int length) {
        if (!entries.bytes.hasRoom(length)) {
            throw new UnsupportedOperationException();
        }
    }

    private void takeSpare() {
        World before = world;
        world = spare;
        spare = before;
        world.events.clear();
    }

    private static boolean isWithin(int number, int least, int most) {
        return number >= least && number <= most;
    }

    private static boolean isPlace(int x, int y) {
        return isWithin(x, 0, LAST_PLACE) && isWithin(y, 0, LAST_PLACE);
    }

    private static boolean isSpeed(int vx, int vy) {
        return isWithin(vx, -FASTEST, FASTEST) && isWithin(vy, -FASTEST, FASTEST);
    }

    private static boolean isShape(int halfWidth, int halfHeight) {
        return isWithin(halfWidth, 1, WIDEST) && isWithin(halfHeight, 1, WIDEST);
    }

    private static boolean isShapeOrNone(int halfWidth, int halfHeight) {
        return halfWidth == 0 && halfHeight == 0 || isShape(halfWidth, halfHeight);
    }

    private static boolean isTimer(int n) {
        return isWithin(n, 1, LONGEST_TIMER);
    }

    private static boolean isTimerOrNone(int n) {
        return n == 0 || isTimer(n);
    }

    private static boolean areCloser(int p, int q, int distance) {
        return p - q < distance && q - p < distance;
    }

    private static int slotNumber(int handle) {
        return handle & (SLOTS - 1);
    }

    private static int pairOf(int a, int b) {
        return a * SLOTS + b;
    }

    private static int firstOf(int pair) {
        return pair / SLOTS;
    }

    private static int secondOf(int pair) {
        return pair % SLOTS;
    }

    /** A slot with its thing; what is written of the thing counts only while the slot is taken. */
    private static final class Slot {
        int generation;
        boolean taken;
        int x;
        int y;
        int vx;
        int vy;
        int halfWidth;
        int halfHeight;
        int timer;

        void settle(int placeX, int placeY) {
            taken = true;
            x = placeX;
            y = placeY;
            setSpeed(0, 0);
            setShape(0, 0);
            timer = 0;
        }

        void vacate() {
            taken = false;
            generation = (generation + 1) % GENERATIONS;
        }

        void setSpeed(int alongX, int alongY) {
            vx = alongX;
            vy = alongY;
        }

        void setShape(int width, int height) {
            halfWidth = width;
            halfHeight = height;
        }

        boolean hasShape() {
            return taken && halfWidth > 0;
        }

        boolean hasTimer() {
            return taken && timer > 0;
        }

        boolean covers(int pointX, int pointY) {
            return hasShape() && areCloser(x, pointX, halfWidth) && areCloser(y, pointY, halfHeight);
        }

        boolean overlaps(Slot other) {
            return hasShape() && other.hasShape()
                    && areCloser(x, other.x, halfWidth + other.halfWidth)
                    && areCloser(y, other.y, halfHeight + other.halfHeight);
        }

        void move() {
            x += vx;
            if (!isWithin(x, 0, LAST_PLACE)) {
                x = thrownBack(x);
                vx = -vx;
            }
            y += vy;
            if (!isWithin(y, 0, LAST_PLACE)) {
                y = thrownBack(y);
                vy = -vy;
            }
        }

        private static int thrownBack(int place) {
            return place < 0 ? -place : 2 * LAST_PLACE - place;
        }
    }

    /** The events of the last tick. */
    private static final class Events {
        final int[] kinds = new int[PAIRS];
        final int[] pairs = new int[PAIRS];
        int count;

        void clear() {
            count = 0;
        }

        boolean has(int k) {
            return k >= 0 && k < count;
        }

        void add(int kind, int pair) {
            if (count < PAIRS) {
                kinds[count] = kind;
                pairs[count] = pair;
                count++;
            }
        }
    }

    /** The slots, the clock, the pairs that touch, and the events of the last tick. */
    private static final class World {
        final Slot[] slots = new Slot[SLOTS];
        /** By pairOf(a, b) with a < b; the rest stays false. */
        final boolean[] touching = new boolean[SLOTS * SLOTS];
        final Events events = new Events();
        int clock;

        World() {
            for (int i = 0; i < SLOTS; i++) {
                slots[i] = new Slot();
            }
        }

        /** A number that is no handle at all has a generation that no slot can have. */
        boolean isGood(int handle) {
            Slot slot = slotOf(handle);
            return slot.taken && slot.generation == handle >> 4;
        }

        Slot slotOf(int handle) {
            return slots[slotNumber(handle)];
        }

        int handleIn(int i) {
            return i + SLOTS * slots[i].generation;
        }

        int lowestEmpty() {
            for (int i = 0; i < SLOTS; i++) {
                if (!slots[i].taken) {
                    return i;
                }
            }
            return NONE;
        }

        int addThing(int x, int y) {
            int i = lowestEmpty();
            if (i == NONE) {
                return NONE;
            }
            slots[i].settle(x, y);
            return handleIn(i);
        }

        void removeThing(int i) {
            slots[i].vacate();
            for (int other = 0; other < SLOTS; other++) {
                touching[pairOf(i, other)] = false;
                touching[pairOf(other, i)] = false;
            }
        }

        int covering(int x, int y) {
            int sum = 0;
            for (int i = 0; i < SLOTS; i++) {
                if (slots[i].covers(x, y)) {
                    sum += 1 << i;
                }
            }
            return sum;
        }

        void step() {
            if (clock < LAST_CLOCK) {
                clock++;
            }
            countDown();
            moveAll();
            makeEvents();
        }

        private void countDown() {
            for (int i = 0; i < SLOTS; i++) {
                if (slots[i].hasTimer()) {
                    slots[i].timer--;
                    if (slots[i].timer == 0) {
                        removeThing(i);
                    }
                }
            }
        }

        private void moveAll() {
            for (int i = 0; i < SLOTS; i++) {
                if (slots[i].taken) {
                    slots[i].move();
                }
            }
        }

        private void makeEvents() {
            events.clear();
            for (int a = 0; a < SLOTS; a++) {
                for (int b = a + 1; b < SLOTS; b++) {
                    meet(pairOf(a, b), slots[a].overlaps(slots[b]));
                }
            }
        }

        private void meet(int pair, boolean overlap) {
            if (overlap) {
                events.add(touching[pair] ? STAY : BEGIN, pair);
            } else if (touching[pair]) {
                events.add(END, pair);
            }
            touching[pair] = overlap;
        }

        boolean isPairOfThings(int pair) {
            int a = firstOf(pair);
            int b = secondOf(pair);
            return a < b && slots[a].taken && slots[b].taken;
        }

        int countTouching() {
            int sum = 0;
            for (int pair = 0; pair < SLOTS * SLOTS; pair++) {
                if (touching[pair]) {
                    sum++;
                }
            }
            return sum;
        }

        void forgetTouching() {
            for (int pair = 0; pair < SLOTS * SLOTS; pair++) {
                touching[pair] = false;
            }
        }
    }

    /** A row of bytes, each 0 to 255, that is written at its end and read from its start. */
    private static final class Bytes {
        final int[] row;
        int count;
        int place;

        Bytes(int room) {
            row = new int[room];
        }

        void clear() {
            count = 0;
        }

        boolean has(int k) {
            return k >= 0 && k < count;
        }

        boolean hasRoom(int length) {
            return length <= row.length - count;
        }

        void add(int number, int length) {
            for (int shift = 8 * (length - 1); shift >= 0; shift -= 8) {
                if (hasRoom(1)) {
                    row[count] = number >> shift & 255;
                    count++;
                }
            }
        }

        /** The next number; NONE when the bytes end before it does. */
        int next(int length) {
            int number = 0;
            for (int i = 0; i < length; i++) {
                if (!has(place)) {
                    return NONE;
                }
                number = number << 8 | row[place];
                place++;
            }
            return number;
        }

        boolean isAtEnd() {
            return place >= count;
        }

        int checkOfFirst(int length) {
            int c = 1;
            int d = 0;
            for (int k = 0; k < length && k < count; k++) {
                c = (c + row[k]) % 251;
                d = (d + c) % 251;
            }
            return d << 8 | c;
        }
    }

    /** The saved state: a world as bytes. */
    private static final class StateBytes {
        private static final int MARK = 84;
        private static final int EMPTY = 0;
        private static final int THING = 1;
        private static final int WITH_SHAPE = 2;
        private static final int WITH_TIMER = 4;

        final Bytes bytes = new Bytes(STATE_ROOM);

        void write(World world) {
            bytes.clear();
            bytes.add(MARK, 1);
            bytes.add(world.clock, 4);
            for (int i = 0; i < SLOTS; i++) {
                writeSlot(world.slots[i]);
            }
            writePairs(world);
            bytes.add(bytes.checkOfFirst(bytes.count), 2);
        }

        private void writeSlot(Slot slot) {
            bytes.add(slot.generation, 2);
            bytes.add(kindOf(slot), 1);
            if (slot.taken) {
                bytes.add(slot.x, 2);
                bytes.add(slot.y, 2);
                bytes.add(slot.vx + SPEED_ZERO, 1);
                bytes.add(slot.vy + SPEED_ZERO, 1);
            }
            if (slot.hasShape()) {
                bytes.add(slot.halfWidth, 1);
                bytes.add(slot.halfHeight, 1);
            }
            if (slot.hasTimer()) {
                bytes.add(slot.timer, 2);
            }
        }

        private static int kindOf(Slot slot) {
            if (!slot.taken) {
                return EMPTY;
            }
            return THING + (slot.hasShape() ? WITH_SHAPE : 0) + (slot.hasTimer() ? WITH_TIMER : 0);
        }

        private void writePairs(World world) {
            bytes.add(world.countTouching(), 1);
            for (int pair = 0; pair < SLOTS * SLOTS; pair++) {
                if (world.touching[pair]) {
                    bytes.add(pair, 1);
                }
            }
        }

        /** Whether the state is sound; if it is not, what stands in the world then is of no use. */
        boolean readInto(World world) {
            bytes.place = 0;
            return readHead(world) && readSlots(world) && readPairs(world) && readCheck();
        }

        private boolean readHead(World world) {
            boolean marked = bytes.next(1) == MARK;
            world.clock = bytes.next(4);
            return marked && world.clock >= 0;
        }

        private boolean readSlots(World world) {
            for (int i = 0; i < SLOTS; i++) {
                if (!readSlot(world.slots[i])) {
                    return false;
                }
            }
            return true;
        }

        private boolean readSlot(Slot slot) {
            slot.generation = bytes.next(2);
            int kind = bytes.next(1);
            slot.taken = kind != EMPTY;
            if (kind == EMPTY) {
                return true;
            }
            boolean known = isWithin(kind, THING, THING + WITH_SHAPE + WITH_TIMER) && (kind & THING) != 0;
            return known && readThing(slot)
                    && readShape(slot, (kind & WITH_SHAPE) != 0)
                    && readTimer(slot, (kind & WITH_TIMER) != 0);
        }

        private boolean readThing(Slot slot) {
            int x = bytes.next(2);
            int y = bytes.next(2);
            slot.settle(x, y);
            int vx = bytes.next(1) - SPEED_ZERO;
            int vy = bytes.next(1) - SPEED_ZERO;
            slot.setSpeed(vx, vy);
            return isPlace(x, y) && isSpeed(vx, vy);
        }

        private boolean readShape(Slot slot, boolean shaped) {
            if (!shaped) {
                return true;
            }
            int halfWidth = bytes.next(1);
            int halfHeight = bytes.next(1);
            slot.setShape(halfWidth, halfHeight);
            return isShape(halfWidth, halfHeight);
        }

        private boolean readTimer(Slot slot, boolean timed) {
            if (!timed) {
                return true;
            }
            slot.timer = bytes.next(2);
            return isTimer(slot.timer);
        }

        private boolean readPairs(World world) {
            world.forgetTouching();
            int count = bytes.next(1);
            int before = NONE;
            for (int i = 0; i < count; i++) {
                int pair = bytes.next(1);
                if (pair <= before || !world.isPairOfThings(pair)) {
                    return false;
                }
                world.touching[pair] = true;
                before = pair;
            }
            return count != NONE;
        }

        private boolean readCheck() {
            int check = bytes.checkOfFirst(bytes.place);
            return bytes.next(2) == check && bytes.isAtEnd();
        }
    }

    /** The log: what was done since the saved state, as bytes. */
    private static final class LogBytes {
        static final int CREATE_LENGTH = 5;
        static final int DESTROY_LENGTH = 4;
        static final int SPEED_LENGTH = 6;
        static final int SHAPE_LENGTH = 6;
        static final int TIMER_LENGTH = 6;
        static final int TICK_LENGTH = 1;

        private static final int CREATE = 1;
        private static final int DESTROY = 2;
        private static final int SPEED = 3;
        private static final int SHAPE = 4;
        private static final int TIMER = 5;
        private static final int TICK = 6;

        final Bytes bytes = new Bytes(LOG_ROOM);

        void addCreate(int x, int y) {
            bytes.add(CREATE, 1);
            bytes.add(x, 2);
            bytes.add(y, 2);
        }

        void addDestroy(int handle) {
            bytes.add(DESTROY, 1);
            bytes.add(handle, 3);
        }

        void addSpeed(int handle, int vx, int vy) {
            bytes.add(SPEED, 1);
            bytes.add(handle, 3);
            bytes.add(vx + SPEED_ZERO, 1);
            bytes.add(vy + SPEED_ZERO, 1);
        }

        void addShape(int handle, int halfWidth, int halfHeight) {
            bytes.add(SHAPE, 1);
            bytes.add(handle, 3);
            bytes.add(halfWidth, 1);
            bytes.add(halfHeight, 1);
        }

        void addTimer(int handle, int n) {
            bytes.add(TIMER, 1);
            bytes.add(handle, 3);
            bytes.add(n, 2);
        }

        void addTick() {
            bytes.add(TICK, 1);
        }

        /** The place of the first entry that can not be; NONE when all of them are done. */
        int redoOn(World world) {
            bytes.place = 0;
            for (int i = 0; i < LOG_ROOM && !bytes.isAtEnd(); i++) {
                int start = bytes.place;
                if (!redoEntry(world)) {
                    return start;
                }
            }
            return NONE;
        }

        /** What is cut off reads as NONE, which no entry takes for a handle, a place, a speed or a length. */
        private boolean redoEntry(World world) {
            switch (bytes.next(1)) {
                case CREATE:
                    return redoCreate(world);
                case DESTROY:
                    return redoDestroy(world);
                case SPEED:
                    return redoSpeed(world);
                case SHAPE:
                    return redoShape(world);
                case TIMER:
                    return redoTimer(world);
                case TICK:
                    world.step();
                    return true;
                default:
                    return false;
            }
        }

        private boolean redoCreate(World world) {
            int x = bytes.next(2);
            int y = bytes.next(2);
            return isPlace(x, y) && world.addThing(x, y) != NONE;
        }

        private boolean redoDestroy(World world) {
            int handle = bytes.next(3);
            if (!world.isGood(handle)) {
                return false;
            }
            world.removeThing(slotNumber(handle));
            return true;
        }

        private boolean redoSpeed(World world) {
            int handle = bytes.next(3);
            int vx = bytes.next(1) - SPEED_ZERO;
            int vy = bytes.next(1) - SPEED_ZERO;
            if (!world.isGood(handle) || !isSpeed(vx, vy)) {
                return false;
            }
            world.slotOf(handle).setSpeed(vx, vy);
            return true;
        }

        private boolean redoShape(World world) {
            int handle = bytes.next(3);
            int halfWidth = bytes.next(1);
            int halfHeight = bytes.next(1);
            if (!world.isGood(handle) || !isShapeOrNone(halfWidth, halfHeight)) {
                return false;
            }
            world.slotOf(handle).setShape(halfWidth, halfHeight);
            return true;
        }

        private boolean redoTimer(World world) {
            int handle = bytes.next(3);
            int n = bytes.next(2);
            if (!world.isGood(handle) || !isTimerOrNone(n)) {
                return false;
            }
            world.slotOf(handle).timer = n;
            return true;
        }
    }
}
