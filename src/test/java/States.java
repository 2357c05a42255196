/** States of a heap, and ints beyond its bounds, that tests of the boundaries begin with. */
final class States {
    static final int LEAST = Integer.MIN_VALUE;
    static final int GREATEST = Integer.MAX_VALUE;
    // 256 and 65536 would be register 0, if they were cut to a byte or a short.
    static final int[] NO_REGISTERS = {LEAST, LEAST + 1, -11, -2, -1, 10, 11, 256, 65536, GREATEST};
    static final int[] NO_SIZES = {LEAST, -3, -2, -1, 21, 22, 256, 65536, GREATEST};

    static final int NOTHING = -2;
    static final int NUMBER = -3;

    static final int MIXED_CELLS = 35;
    static final Twins NEW = new Twins("new", 20, x -> { });
    static final Twins ROOMY = new Twins("roomy", 80, States::mixed);
    static final Twins FILLED = new Twins("filled", MIXED_CELLS, States::mixed);
    static final Twins STACKED = new Twins("50 on the stack", 80, States::stacked);
    static final Twins[] ALL = {NEW, ROOMY, FILLED, STACKED};

    private States() {
    }

    /**
     * 0 and 5 hold an object of 3 values: 7, itself, the object in 1. 1 holds one of 20 values, 4 one
     * of none; 2 holds 7, 8 the least and 9 the greatest number, 3, 6 and 7 NOTHING. The stack has an
     * object of 4 values that only it holds, 7 and NOTHING. In all that is 22 + 5 + 2 + 6 cells.
     */
    static void mixed(SliceHeap x) {
        x.number(2, 7);
        x.make(1, 20, 2);
        x.make(0, 3, 2);
        x.set(0, 1, 0);
        x.set(0, 2, 1);
        x.make(4, 0, 4);
        x.copy(5, 0);
        x.make(6, 4, 2);
        x.push(6);
        x.push(2);
        x.push(3);
        x.number(2, 7);
        x.number(8, LEAST);
        x.number(9, GREATEST);
        // Garbage, or a first time full.
        x.make(7, 2, 2);
        x.copy(7, -1);
    }

    static void stacked(SliceHeap x) {
        mixed(x);
        for (int size = 4; size <= 50; size++) {
            x.number(3, size);
            x.push(3);
        }
    }
}
