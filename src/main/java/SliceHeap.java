import java.util.Arrays;

/** A heap that tells exactly when it is full; the promises are those of DOC.md. */
public final class SliceHeap {
    private static final int LEAST_CELLS = 20;
    private static final int MOST_CELLS = 3000;
    private static final int USUAL_CELLS = 300;
    private static final int REGISTERS = 10;
    private static final int MOST_STACKED = 50;
    private static final int MOST_VALUES = 20;
    private static final int HEAD_CELLS = 2;

    private static final int MADE = 1;
    private static final int FULL = 0;
    private static final int REFUSED = -1;
    private static final int LOOKS_NOTHING = -2;
    private static final int LOOKS_NUMBER = -3;
    private static final int FROM_NOTHING = -1;

    // A value is one long, so that like values are equal longs: a number is itself
    // (an int lies below NOTHING), an object is FIRST_OBJECT and its row in the memory.
    private static final long NOTHING = 1L << 32;
    private static final long FIRST_OBJECT = NOTHING + 1;

    private final int cells;
    private final long[] registers;
    private final long[] stack;
    private final Memory memory;
    private int stacked;
    private int madeInAll;
    private int timesFull;

    public SliceHeap(int cells) {
        this.cells = cells >= LEAST_CELLS && cells <= MOST_CELLS ? cells : USUAL_CELLS;
        registers = new long[REGISTERS];
        Arrays.fill(registers, NOTHING);
        stack = new long[MOST_STACKED];
        // No object has fewer cells than its head, so more rows are never reachable at once.
        memory = new Memory(this.cells / HEAD_CELLS);
    }

    public int make(int r, int n, int s) {
        if (!isRegister(r) || !isRegister(s) || n < 0 || n > MOST_VALUES) {
            return REFUSED;
        }
        long made = hasRoomFor(HEAD_CELLS + n) ? memory.place(n, registers[s]) : NOTHING;
        if (made == NOTHING) {
            return tellFull();
        }
        registers[r] = made;
        madeInAll++;
        return MADE;
    }

    public int grow(int r, int s) {
        Thing thing = thingIn(r);
        if (thing == null || !isRegister(s) || thing.size >= MOST_VALUES) {
            return REFUSED;
        }
        if (!hasRoomFor(1)) {
            return tellFull();
        }
        thing.values[thing.size] = registers[s];
        thing.size++;
        return thing.size;
    }

    public int shrink(int r) {
        Thing thing = thingIn(r);
        if (thing == null || thing.size <= 0) {
            return REFUSED;
        }
        thing.size--;
        return thing.size;
    }

    public boolean number(int r, int v) {
        if (!isRegister(r)) {
            return false;
        }
        registers[r] = v;
        return true;
    }

    public boolean copy(int r, int s) {
        if (!isRegister(r) || (s != FROM_NOTHING && !isRegister(s))) {
            return false;
        }
        registers[r] = s == FROM_NOTHING ? NOTHING : registers[s];
        return true;
    }

    public boolean get(int r, int s, int k) {
        Thing thing = thingIn(s);
        if (!isRegister(r) || thing == null || !thing.hasValue(k)) {
            return false;
        }
        registers[r] = thing.values[k];
        return true;
    }

    public boolean set(int r, int k, int s) {
        Thing thing = thingIn(r);
        if (!isRegister(s) || thing == null || !thing.hasValue(k)) {
            return false;
        }
        thing.values[k] = registers[s];
        return true;
    }

    public int push(int r) {
        if (!isRegister(r) || stacked >= MOST_STACKED) {
            return REFUSED;
        }
        stack[stacked] = registers[r];
        stacked++;
        registers[r] = NOTHING;
        return stacked;
    }

    public int pop(int r) {
        if (!isRegister(r) || stacked <= 0) {
            return REFUSED;
        }
        stacked--;
        registers[r] = stack[stacked];
        return stacked;
    }

    public int look(int r) {
        if (!isRegister(r)) {
            return REFUSED;
        }
        Thing thing = thingIn(r);
        if (thing != null) {
            return thing.size;
        }
        return registers[r] == NOTHING ? LOOKS_NOTHING : LOOKS_NUMBER;
    }

    public int numberIn(int r) {
        return isRegister(r) && registers[r] < NOTHING ? (int) registers[r] : 0;
    }

    public int same(int r, int s) {
        if (!isRegister(r) || !isRegister(s)) {
            return REFUSED;
        }
        return registers[r] == registers[s] ? 1 : 0;
    }

    public int count(int what) {
        switch (what) {
            case 0:
                walk();
                return memory.reachedCells;
            case 1:
                walk();
                return memory.reachedObjects;
            case 2:
                return stacked;
            case 3:
                return madeInAll;
            case 4:
                return timesFull;
            default:
                return REFUSED;
        }
    }

    private static boolean isRegister(int r) {
        return r >= 0 && r < REGISTERS;
    }

    private Thing thingIn(int r) {
        return isRegister(r) ? memory.thingOf(registers[r]) : null;
    }

    private int tellFull() {
        timesFull++;
        return FULL;
    }

    // The registers that a call names still hold what they held, so the walk counts that too.
    private boolean hasRoomFor(int needed) {
        walk();
        return memory.reachedCells + needed <= cells;
    }

    private void walk() {
        memory.forgetWalk();
        memory.reachAll(registers, REGISTERS);
        memory.reachAll(stack, stacked);
        memory.followReached();
    }

    /** An object of the heap; what stands in values from size on is of no account. */
    private static final class Thing {
        private final long[] values = new long[MOST_VALUES];
        private int size;
        private boolean reached;

        private boolean hasValue(int k) {
            return k >= 0 && k < size;
        }

        private void fill(int newSize, long value) {
            size = newSize;
            for (int k = 0; k < newSize && k < values.length; k++) {
                values[k] = value;
            }
        }
    }

    /** The rows that objects stand in, and what the last walk reached of them. */
    private static final class Memory {
        // Rows are filled from the front and used again, so the first null ends them.
        private final Thing[] rows;
        private final Thing[] reached;
        private int reachedObjects;
        private int reachedCells;

        private Memory(int mostObjects) {
            rows = new Thing[mostObjects];
            reached = new Thing[mostObjects];
        }

        private Thing thingOf(long value) {
            long row = value - FIRST_OBJECT;
            return row >= 0 && row < rows.length ? rows[(int) row] : null;
        }

        /** Only right behind a walk: a row that it did not reach is given to the new object. */
        private long place(int size, long value) {
            int row = firstUnreached();
            if (row >= rows.length) {
                return NOTHING;
            }
            if (rows[row] == null) {
                rows[row] = new Thing();
            }
            rows[row].fill(size, value);
            return FIRST_OBJECT + row;
        }

        private int firstUnreached() {
            int row = 0;
            while (row < rows.length && rows[row] != null && rows[row].reached) {
                row++;
            }
            return row;
        }

        private void forgetWalk() {
            for (int row = 0; row < rows.length && rows[row] != null; row++) {
                rows[row].reached = false;
            }
            reachedObjects = 0;
            reachedCells = 0;
        }

        private void reachAll(long[] values, int size) {
            for (int k = 0; k < size && k < values.length; k++) {
                reach(thingOf(values[k]));
            }
        }

        private void reach(Thing thing) {
            if (thing == null || thing.reached || reachedObjects >= reached.length) {
                return;
            }
            thing.reached = true;
            reached[reachedObjects] = thing;
            reachedObjects++;
            reachedCells += HEAD_CELLS + thing.size;
        }

        // A row of things to follow, not recursion: a chain of objects may be hundreds long.
        private void followReached() {
            for (int next = 0; next < reachedObjects && next < reached.length; next++) {
                Thing thing = reached[next];
                if (thing != null) {
                    reachAll(thing.values, thing.size);
                }
            }
        }
    }
}
