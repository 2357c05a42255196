/** Each sentence of promises 1 to 14 that names a boundary: at it, just inside and just outside. */
public final class BoundariesTest {
    // Registers of the states that hold no object, or one without values.
    private static final int[] NO_OBJECT = {2, 3, 6, 7, 8, 9};
    private static final int[] NO_VALUES = {2, 3, 4, 6, 7, 8, 9};

    public static void main(String[] args) {
        mixedIsAsTold();
        cells();
        make();
        makeRefused();
        grow();
        growRefused();
        shrink();
        shrinkRefused();
        number();
        copy();
        copyRefused();
        get();
        getRefused();
        set();
        setRefused();
        push();
        pop();
        look();
        numberIn();
        same();
        count();
        Check.end();
    }

    /** The other tests stand on this state. */
    private static void mixedIsAsTold() {
        SliceHeap x = new SliceHeap(States.MIXED_CELLS);
        States.mixed(x);
        int[] looks = {3, 20, States.NUMBER, States.NOTHING, 0, 3, States.NOTHING, States.NOTHING,
            States.NUMBER, States.NUMBER};
        for (int r = 0; r < looks.length; r++) {
            Check.due("mixed", x, looks[r], "look", r);
        }
        int[] counts = {States.MIXED_CELLS, 4, 3, 4, 1};
        for (int what = 0; what < counts.length; what++) {
            Check.due("mixed", x, counts[what], "count", what);
        }
    }

    // 1: "C is cells, if that is 20 .. 3000, otherwise 300."

    private static void cells() {
        for (int cells : new int[] {20, 21, 22, 299, 300, 301, 2998, 2999, 3000}) {
            cellsAre(cells, cells);
        }
        for (int cells : new int[] {States.LEAST, States.LEAST + 20, -3000, -300, -20, -1, 0, 1, 18, 19,
            3001, 3002, 65536 + 20, States.GREATEST}) {
            cellsAre(cells, 300);
        }
    }

    private static void cellsAre(int cells, int due) {
        SliceHeap x = new SliceHeap(cells);
        String where = "1 SliceHeap(" + cells + ")";
        int left = due;
        // Each object holds the one before it, so all stay reachable; 3 .. 21 cells are left.
        while (left >= 22 + 3) {
            Check.due(where, x, 1, "make", 0, 20, 0);
            left -= 22;
        }
        if (left > 21) {
            Check.due(where, x, 1, "make", 0, 1, 0);
            left -= 3;
        }
        Check.due(where, x, due - left, "count", 0);
        Check.due(where + " one more than C", x, 0, "make", 1, left - 1, 0);
        Check.due(where + " exactly C", x, 1, "make", 1, left - 2, 0);
        Check.due(where, x, due, "count", 0);
        Check.due(where + " no cell is left", x, 0, "make", 2, 0, 2);
        Check.due(where + " no cell is left", x, 0, "grow", 1, 1);
        Check.due(where, x, 3, "count", 4);
    }

    // 2: "1; 0 it is full; -1, refused, if there is no such register, or n is not 0 .. 20."

    private static void make() {
        for (int n = 0; n <= 20; n++) {
            SliceHeap x = new SliceHeap(2 + n < 20 ? 20 : 2 + n);
            x.number(9, n);
            Check.due("2", x, 1, "make", 0, n, 9);
            Check.due("2", x, n, "look", 0);
            Check.due("2", x, 2 + n, "count", 0);
            for (int k = 0; k < n; k++) {
                Check.due("2", x, 1, "get", 1, 0, k);
                Check.due("2", x, 1, "same", 1, 9);
            }
            Check.due("2", x, 0, "get", 1, 0, n);
        }
        SliceHeap x = new SliceHeap(300);
        for (int r = 0; r <= 9; r++) {
            Check.due("2", x, 1, "make", r, r, 9 - r);
            Check.due("2", x, r, "look", r);
            Check.due("2", x, r + 1, "count", 3);
        }
    }

    private static void makeRefused() {
        for (Twins state : States.ALL) {
            for (int bad : States.NO_REGISTERS) {
                state.unchanged(-1, "make", bad, 1, 2);
                state.unchanged(-1, "make", 3, 1, bad);
                // Without values register s is named all the same.
                state.unchanged(-1, "make", 3, 0, bad);
                state.unchanged(-1, "make", bad, 21, bad);
            }
            for (int bad : States.NO_SIZES) {
                state.unchanged(-1, "make", 0, bad, 0);
                state.unchanged(-1, "make", 9, bad, 9);
            }
        }
    }

    // 3: "how many it has then; 0 it is full; -1, refused, if there is no such register, no object in r,
    // or it has 20."

    private static void grow() {
        SliceHeap x = new SliceHeap(22);
        x.make(9, 0, 9);
        for (int size = 1; size <= 20; size++) {
            x.number(0, size);
            Check.due("3", x, size, "grow", 9, 0);
            Check.due("3", x, size, "look", 9);
            Check.due("3", x, 2 + size, "count", 0);
            Check.due("3", x, 1, "get", 1, 9, size - 1);
            Check.due("3 the new value", x, size, "numberIn", 1);
            Check.due("3", x, 1, "get", 1, 9, 0);
            Check.due("3 the first value", x, 1, "numberIn", 1);
        }
        Check.due("3 it has 20, and no cell is left", x, -1, "grow", 9, 0);
        Check.due("3 that is no time full", x, 0, "count", 4);
        Check.due("3", x, 19, "shrink", 9);
        Check.due("3 19 again", x, 20, "grow", 9, 9);
    }

    private static void growRefused() {
        for (Twins state : States.ALL) {
            for (int bad : States.NO_REGISTERS) {
                state.unchanged(-1, "grow", bad, 0);
                state.unchanged(-1, "grow", 0, bad);
                state.unchanged(-1, "grow", bad, bad);
            }
            for (int r : NO_OBJECT) {
                state.unchanged(-1, "grow", r, 0);
            }
            state.unchanged(-1, "grow", 1, 0);
            state.unchanged(-1, "grow", 1, 1);
        }
    }

    // 4: "how many it has then; -1, refused, if there is no such register, no object in it, or it has
    // none."

    private static void shrink() {
        SliceHeap x = new SliceHeap(22);
        x.number(0, 5);
        x.make(9, 20, 0);
        for (int size = 19; size >= 0; size--) {
            Check.due("4", x, size, "shrink", 9);
            Check.due("4", x, size, "look", 9);
            Check.due("4", x, 2 + size, "count", 0);
            Check.due("4 the last is lost", x, 0, "get", 1, 9, size);
            Check.due("4 the one before is not", x, size > 0 ? 1 : 0, "get", 1, 9, size - 1);
        }
        Check.due("4 it has none", x, -1, "shrink", 9);
        Check.due("4 and is an object", x, 0, "look", 9);
        Check.due("4", x, 1, "grow", 9, 0);
        Check.due("4 the last one", x, 0, "shrink", 9);
    }

    private static void shrinkRefused() {
        for (Twins state : States.ALL) {
            for (int bad : States.NO_REGISTERS) {
                state.unchanged(-1, "shrink", bad);
            }
            for (int r : NO_VALUES) {
                state.unchanged(-1, "shrink", r);
            }
        }
    }

    // 5: "true; false if there is no such register."

    private static void number() {
        SliceHeap x = new SliceHeap(20);
        for (int r = 0; r <= 9; r++) {
            for (int v : new int[] {States.LEAST, -3, -2, -1, 0, 1, 20, States.GREATEST}) {
                Check.due("5", x, 1, "number", r, v);
                Check.due("5", x, v, "numberIn", r);
                Check.due("5", x, States.NUMBER, "look", r);
            }
        }
        for (Twins state : States.ALL) {
            for (int bad : States.NO_REGISTERS) {
                state.unchanged(0, "number", bad, 0);
                state.unchanged(0, "number", bad, States.LEAST);
                state.unchanged(0, "number", bad, States.GREATEST);
            }
        }
    }

    // 6: "Register r holds what register s holds (NOTHING, if s is -1): true; false if there is no such
    // one."

    private static void copy() {
        SliceHeap x = new SliceHeap(300);
        for (int r = 0; r <= 9; r++) {
            for (int s = 0; s <= 9; s++) {
                x.number(s, 10 * r + s);
                Check.due("6", x, 1, "copy", r, s);
                Check.due("6", x, 10 * r + s, "numberIn", r);
                Check.due("6 s stays", x, 10 * r + s, "numberIn", s);
            }
        }
        for (int r = 0; r <= 9; r++) {
            x.make(r, 2, r);
            Check.due("6", x, 1, "copy", r, -1);
            Check.due("6", x, States.NOTHING, "look", r);
            Check.due("6 NOTHING already", x, 1, "copy", r, -1);
            Check.due("6", x, States.NOTHING, "look", r);
        }
        Check.due("6 all is let go", x, 0, "count", 0);
    }

    private static void copyRefused() {
        for (Twins state : States.ALL) {
            for (int bad : States.NO_REGISTERS) {
                state.unchanged(0, "copy", bad, 0);
                state.unchanged(0, "copy", bad, -1);
                state.unchanged(0, "copy", bad, bad);
                if (bad != -1) {
                    state.unchanged(0, "copy", 0, bad);
                    state.unchanged(0, "copy", 9, bad);
                }
            }
        }
    }

    // 7: "true; false if there is no such register, object or value."

    private static void get() {
        for (int n = 0; n <= 20; n++) {
            SliceHeap x = numbered(n);
            for (int k = 0; k < n; k++) {
                Check.due("7", x, 1, "get", k % 9, 9, k);
                Check.due("7", x, 100 + k, "numberIn", k % 9);
            }
            x.number(0, 55);
            for (int k : new int[] {States.LEAST, -1, n, n + 1, 20, 256 + n, States.GREATEST}) {
                Check.due("7 of " + n, x, 0, "get", 0, 9, k);
            }
            Check.due("7", x, 55, "numberIn", 0);
            Check.due("7", x, n, "look", 9);
        }
        SliceHeap x = numbered(3);
        x.shrink(9);
        Check.due("7 the last is lost", x, 0, "get", 0, 9, 2);
        x.grow(9, 3);
        Check.due("7 a new one is there", x, 1, "get", 0, 9, 2);
        Check.due("7", x, States.NOTHING, "look", 0);
        Check.due("7 r is s", x, 1, "get", 9, 9, 1);
        Check.due("7", x, 101, "numberIn", 9);
    }

    private static void getRefused() {
        for (Twins state : States.ALL) {
            for (int bad : States.NO_REGISTERS) {
                state.unchanged(0, "get", bad, 0, 0);
                state.unchanged(0, "get", 0, bad, 0);
                state.unchanged(0, "get", bad, bad, bad);
            }
            for (int r : NO_VALUES) {
                state.unchanged(0, "get", 9, r, 0);
            }
            for (int bad : new int[] {States.LEAST, -1, 3, 4, 20, 256, States.GREATEST}) {
                state.unchanged(0, "get", 9, 0, bad);
                state.unchanged(0, "get", 0, 0, bad);
            }
            for (int bad : States.NO_SIZES) {
                state.unchanged(0, "get", 9, 1, bad);
            }
            state.unchanged(0, "get", 9, 1, 20);
        }
    }

    /** Register 9 holds an object with the numbers 100, 101 .. as its n values. */
    private static SliceHeap numbered(int n) {
        SliceHeap x = new SliceHeap(25);
        x.make(9, 0, 9);
        for (int k = 0; k < n; k++) {
            x.number(0, 100 + k);
            x.grow(9, 0);
        }
        return x;
    }

    // 8: "Value k of the object in register r becomes what register s holds: true; false likewise."

    private static void set() {
        for (int n = 0; n <= 20; n++) {
            SliceHeap x = numbered(n);
            x.number(8, 77);
            for (int k : new int[] {States.LEAST, -1, n, n + 1, 20, 256 + n, States.GREATEST}) {
                Check.due("8 of " + n, x, 0, "set", 9, k, 8);
            }
            Check.due("8", x, n, "look", 9);
            for (int k = 0; k < n; k++) {
                Check.due("8", x, 1, "get", 1, 9, k);
                Check.due("8", x, 100 + k, "numberIn", 1);
                Check.due("8", x, 1, "set", 9, k, 8);
                Check.due("8", x, 1, "get", 1, 9, k);
                Check.due("8", x, 77, "numberIn", 1);
            }
            Check.due("8", x, n, "look", 9);
        }
        SliceHeap x = numbered(3);
        x.shrink(9);
        Check.due("8 the last is lost", x, 0, "set", 9, 2, 9);
        Check.due("8 r is s", x, 1, "set", 9, 1, 9);
        x.get(1, 9, 1);
        Check.due("8", x, 1, "same", 1, 9);
        Check.due("8", x, 4, "count", 0);
    }

    private static void setRefused() {
        for (Twins state : States.ALL) {
            for (int bad : States.NO_REGISTERS) {
                state.unchanged(0, "set", bad, 0, 0);
                state.unchanged(0, "set", 0, 0, bad);
                state.unchanged(0, "set", bad, bad, bad);
            }
            for (int r : NO_VALUES) {
                state.unchanged(0, "set", r, 0, 1);
            }
            for (int bad : new int[] {States.LEAST, -1, 3, 4, 20, 256, States.GREATEST}) {
                state.unchanged(0, "set", 0, bad, 9);
                state.unchanged(0, "set", 0, bad, 0);
            }
            for (int bad : States.NO_SIZES) {
                state.unchanged(0, "set", 1, bad, 9);
            }
            state.unchanged(0, "set", 1, 20, 9);
        }
    }

    // 9: "how many are there; -1, refused, if there is no such register, or 50 are there."

    private static void push() {
        SliceHeap x = new SliceHeap(20);
        for (int size = 1; size <= 50; size++) {
            x.number(size % 10, size);
            Check.due("9", x, size, "push", size % 10);
            Check.due("9", x, States.NOTHING, "look", size % 10);
            Check.due("9", x, size, "count", 2);
        }
        Check.due("9 50 are there", x, -1, "push", 0);
        Check.due("9", x, 49, "pop", 0);
        Check.due("9 49 are there", x, 50, "push", 0);
        for (int r = 0; r <= 9; r++) {
            States.STACKED.unchanged(-1, "push", r);
        }
        for (Twins state : States.ALL) {
            for (int bad : States.NO_REGISTERS) {
                state.unchanged(-1, "push", bad);
            }
        }
    }

    // 10: "how many are left; -1, refused, if there is no such register, or none is there."

    private static void pop() {
        SliceHeap x = new SliceHeap(20);
        for (int size = 1; size <= 50; size++) {
            x.number(0, 100 + size);
            x.push(0);
        }
        for (int left = 49; left >= 0; left--) {
            Check.due("10", x, left, "pop", left % 10);
            Check.due("10", x, 101 + left, "numberIn", left % 10);
            Check.due("10", x, left, "count", 2);
        }
        Check.due("10 none is there", x, -1, "pop", 0);
        Check.due("10", x, 101, "numberIn", 0);
        Check.due("10", x, 1, "push", 0);
        Check.due("10 one is there", x, 0, "pop", 9);
        Check.due("10", x, 101, "numberIn", 9);

        Twins none = new Twins("none on the stack", 80, y -> {
            States.mixed(y);
            for (int left = 2; left >= 0; left--) {
                y.pop(7);
            }
        });
        for (int r = 0; r <= 9; r++) {
            States.NEW.unchanged(-1, "pop", r);
            none.unchanged(-1, "pop", r);
        }
        for (Twins state : States.ALL) {
            for (int bad : States.NO_REGISTERS) {
                state.unchanged(-1, "pop", bad);
            }
        }
    }

    // 11: "-2 NOTHING, -3 a number, or how many values its object has; -1 if there is no such register."

    private static void look() {
        SliceHeap x = new SliceHeap(300);
        for (int r = 0; r <= 9; r++) {
            Check.due("11", x, -2, "look", r);
            for (int v : new int[] {States.LEAST, -3, -2, -1, 0, 1, 20, States.GREATEST}) {
                x.number(r, v);
                Check.due("11 of " + v, x, -3, "look", r);
            }
            for (int n : new int[] {0, 1, 19, 20}) {
                x.copy(r, -1);
                x.make(r, n, r);
                Check.due("11", x, n, "look", r);
            }
            x.copy(r, -1);
            Check.due("11", x, -2, "look", r);
        }
        for (Twins state : States.ALL) {
            for (int bad : States.NO_REGISTERS) {
                state.unchanged(-1, "look", bad);
            }
        }
        int[] due = {3, 20, -3, -2, 0, 3, -2, -2, -3, -3};
        for (int r = 0; r <= 9; r++) {
            States.ROOMY.unchanged(due[r], "look", r);
        }
    }

    // 12: "The number in register r; 0 if it holds none."

    private static void numberIn() {
        for (int r = 0; r <= 9; r++) {
            SliceHeap x = new SliceHeap(20);
            Check.due("12 of NOTHING", x, 0, "numberIn", r);
            for (int v : new int[] {States.LEAST, States.LEAST + 1, -1, 0, 1, States.GREATEST}) {
                x.number(r, v);
                Check.due("12", x, v, "numberIn", r);
                throughAllHolders(x, r, v);
            }
            x.make(r, 5, r);
            Check.due("12 of an object", x, 0, "numberIn", r);
        }
        for (Twins state : States.ALL) {
            for (int bad : States.NO_REGISTERS) {
                state.unchanged(0, "numberIn", bad);
            }
        }
        int[] due = {0, 0, 7, 0, 0, 0, 0, 0, States.LEAST, States.GREATEST};
        for (int r = 0; r <= 9; r++) {
            States.ROOMY.unchanged(due[r], "numberIn", r);
        }
    }

    /** A number stays what it is on the stack, and as a value. */
    private static void throughAllHolders(SliceHeap x, int r, int v) {
        x.push(r);
        x.pop(r);
        Check.due("12 from the stack", x, v, "numberIn", r);
        x.make(r, 1, r);
        x.get(r, r, 0);
        Check.due("12 from an object", x, v, "numberIn", r);
    }

    // 13: "1 or 0; -1 if there is no such one."

    private static void same() {
        SliceHeap x = new SliceHeap(300);
        int[] numbers = {States.LEAST, States.LEAST + 1, -3, -2, -1, 0, 1, States.GREATEST};
        x.make(3, 1, 0);
        x.make(4, 1, 0);
        x.copy(5, 4);
        for (int v : numbers) {
            x.number(0, v);
            for (int w : numbers) {
                x.number(9, w);
                Check.due("13 of " + v + " and " + w, x, v == w ? 1 : 0, "same", 0, 9);
            }
            for (int other = 2; other <= 5; other++) {
                Check.due("13 of " + v, x, 0, "same", 0, other);
                Check.due("13 of " + v, x, 0, "same", other, 0);
            }
        }
        Check.due("13 NOTHING", x, 1, "same", 1, 2);
        Check.due("13 NOTHING and an object", x, 0, "same", 1, 3);
        Check.due("13 objects with like values", x, 0, "same", 3, 4);
        Check.due("13 one object", x, 1, "same", 4, 5);
        sameKeepsToRegisters();
    }

    private static void sameKeepsToRegisters() {
        for (Twins state : States.ALL) {
            for (int bad : States.NO_REGISTERS) {
                state.unchanged(-1, "same", bad, 0);
                state.unchanged(-1, "same", 9, bad);
                state.unchanged(-1, "same", bad, bad);
            }
        }
        for (int r = 0; r <= 9; r++) {
            States.NEW.unchanged(1, "same", r, 9 - r);
            States.ROOMY.unchanged(1, "same", r, r);
        }
        States.ROOMY.unchanged(1, "same", 0, 5);
        States.ROOMY.unchanged(0, "same", 0, 1);
    }

    // 14: "-1 for another what."

    private static void count() {
        for (Twins state : States.ALL) {
            for (int bad : new int[] {States.LEAST, States.LEAST + 1, -2, -1, 5, 6, 256, 65536,
                States.GREATEST}) {
                state.unchanged(-1, "count", bad);
            }
        }
        int[] roomy = {States.MIXED_CELLS, 4, 3, 5, 0};
        int[] filled = {States.MIXED_CELLS, 4, 3, 4, 1};
        int[] stacked = {States.MIXED_CELLS, 4, 50, 5, 0};
        for (int what = 0; what <= 4; what++) {
            States.NEW.unchanged(0, "count", what);
            States.ROOMY.unchanged(roomy[what], "count", what);
            States.FILLED.unchanged(filled[what], "count", what);
            States.STACKED.unchanged(stacked[what], "count", what);
        }
    }
}
