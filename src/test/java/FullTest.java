import java.util.function.Consumer;

/** What 'Terms' says of cells, of what is reachable, of FULL, and of calls that are refused. */
public final class FullTest {
    public static void main(String[] args) {
        makeIsFullBeyondC();
        growIsFullBeyondC();
        fullMakeDoesNothing();
        fullGrowDoesNothing();
        whatMakeNamesCounts();
        whatGrowNamesCounts();
        eachHolderReaches();
        eachWayOfLettingGoMakesRoom();
        whatNobodyReachesNeverCounts();
        deepIsReachable();
        fullOftenIsCounted();
        refusedOftenChangesNothing();
        Check.end();
    }

    // "if all that is reachable (with that what the call names) and the cells that are needed are more
    // than C, it is FULL, and nothing is done."

    private static void makeIsFullBeyondC() {
        for (int cells = 20; cells <= 45; cells++) {
            for (int held = 0; held <= 20 && held + 2 <= cells; held++) {
                for (int n = 0; n <= 20; n++) {
                    SliceHeap x = new SliceHeap(cells);
                    x.make(0, held, 0);
                    boolean full = held + 2 + n + 2 > cells;
                    String where = "2 of " + cells + " with " + (held + 2);
                    Check.due(where, x, full ? 0 : 1, "make", 9, n, 0);
                    Check.due(where, x, full ? held + 2 : held + 2 + n + 2, "count", 0);
                    Check.due(where, x, full ? 1 : 2, "count", 1);
                    Check.due(where, x, full ? 1 : 2, "count", 3);
                    Check.due(where, x, full ? 1 : 0, "count", 4);
                    Check.due(where, x, full ? States.NOTHING : n, "look", 9);
                }
            }
        }
    }

    private static void growIsFullBeyondC() {
        for (int cells = 20; cells <= 45; cells++) {
            SliceHeap x = new SliceHeap(cells);
            x.make(0, 16, 0);
            x.make(9, 0, 0);
            for (int size = 1; size <= 20; size++) {
                boolean full = 18 + 2 + size > cells;
                String where = "3 of " + cells;
                Check.due(where, x, full ? 0 : size, "grow", 9, 0);
                Check.due(where, x, full ? cells : 20 + size, "count", 0);
                Check.due(where, x, full ? 20 + size - cells : 0, "count", 4);
                Check.due(where, x, full ? cells - 20 : size, "look", 9);
            }
        }
    }

    private static void fullMakeDoesNothing() {
        for (int n = 0; n <= 20; n++) {
            States.FILLED.full("make", 0, n, 0);
            States.FILLED.full("make", 3, n, 2);
            // n + 1 cells are left, and n + 2 are needed.
            Twins tooSmall = new Twins("one too small", States.MIXED_CELLS + n + 1, States::mixed);
            tooSmall.full("make", 1, n, 1);
            tooSmall.full("make", 9, n, 4);
        }
        for (int r = 0; r <= 9; r++) {
            States.FILLED.full("make", r, 0, 9 - r);
        }
    }

    private static void fullGrowDoesNothing() {
        for (int s = 0; s <= 9; s++) {
            States.FILLED.full("grow", 0, s);
            States.FILLED.full("grow", 4, s);
            States.FILLED.full("grow", 5, s);
        }
        // A refused call goes before: the object in 1 has 20, and 2, 3 and 9 hold none.
        for (int r : new int[] {1, 2, 3, 9}) {
            States.FILLED.unchanged(-1, "grow", r, 0);
        }
    }

    private static void whatMakeNamesCounts() {
        SliceHeap x = new SliceHeap(20);
        x.make(0, 16, 1);
        Check.due("2 what r held counts", x, 0, "make", 0, 1, 1);
        Check.due("2 what r and s held counts", x, 0, "make", 0, 1, 0);
        Check.due("2 r holds it still", x, 16, "look", 0);
        Check.due("2 exactly C", x, 1, "make", 0, 0, 0);
        Check.due("2 and then nobody reaches the old one", x, 2, "count", 0);
        Check.due("2 so that there is room", x, 1, "make", 1, 16, 0);
        Check.due("2", x, 20, "count", 0);
        Check.due("2", x, 2, "count", 4);
    }

    private static void whatGrowNamesCounts() {
        SliceHeap x = new SliceHeap(20);
        x.make(0, 8, 1);
        x.make(1, 7, 2);
        Check.due("3 r and s count", x, 9, "grow", 0, 1);
        Check.due("3 exactly C is past", x, 0, "grow", 0, 1);
        Check.due("3 s counts once, as r too", x, 0, "grow", 1, 1);
        x.copy(1, -1);
        Check.due("3 the value holds it", x, 0, "grow", 0, 2);
        x.shrink(0);
        Check.due("3 nobody holds it", x, 9, "grow", 0, 2);
        Check.due("3", x, 11, "count", 0);
    }

    // "REACHABLE is what a register or the stack holds, and what an object that is reachable has as a
    // value."

    private static void eachHolderReaches() {
        for (int r = 0; r <= 9; r++) {
            int register = r;
            held("in register " + r, 20, x -> x.make(register, 18, register));
        }
        for (int below = 0; below <= 49; below++) {
            int depth = below;
            held("on the stack above " + below, 20, x -> stackedAbove(x, depth, 0));
            held("on the stack below " + below, 20, x -> stackedAbove(x, 0, depth));
        }
        for (int index = 0; index <= 19; index++) {
            int k = index;
            held("as value " + k + " of 20", 22 + 18, x -> valueOf(x, k));
        }
        held("by itself and a register", 20, x -> {
            x.make(0, 18, 0);
            x.set(0, 17, 0);
        });
        held("by two registers and the stack, once", 20, x -> {
            x.make(0, 18, 0);
            x.copy(9, 0);
            x.copy(8, 0);
            x.push(8);
        });
    }

    /** The state holds all C cells. */
    private static void held(String how, int cells, Consumer<SliceHeap> state) {
        SliceHeap x = new SliceHeap(cells);
        state.accept(x);
        Check.due("held " + how, x, cells, "count", 0);
        Check.due("held " + how, x, 0, "make", 5, 0, 5);
        Check.due("held " + how, x, 1, "count", 4);
        SliceHeap roomy = new SliceHeap(cells + 2);
        state.accept(roomy);
        Check.due("held " + how, roomy, 0, "make", 5, 1, 5);
        Check.due("held " + how, roomy, 1, "make", 5, 0, 5);
    }

    private static void stackedAbove(SliceHeap x, int below, int above) {
        for (int i = 0; i < below; i++) {
            x.push(1);
        }
        x.make(0, 18, 1);
        x.push(0);
        for (int i = 0; i < above; i++) {
            x.push(1);
        }
    }

    private static void valueOf(SliceHeap x, int k) {
        x.make(0, 20, 9);
        x.make(1, 16, 9);
        x.set(0, k, 1);
        x.copy(1, -1);
    }

    private static void eachWayOfLettingGoMakesRoom() {
        letGo("by number", x -> x.number(0, 0));
        letGo("by copy of NOTHING", x -> x.copy(0, -1));
        letGo("by copy", x -> x.copy(0, 1));
        letGo("by get", x -> x.get(0, 0, 17));
        letGo("by pop", x -> {
            x.push(1);
            x.pop(0);
        });
        letGo("by push, pop and number", x -> {
            x.push(0);
            x.pop(3);
            x.number(3, 1);
        });
        letGo("in a ring", x -> {
            x.set(0, 0, 0);
            x.copy(0, -1);
        });
        lost("by set", x -> x.set(0, 0, 1));
        lost("by shrink", x -> x.shrink(0));
        lost("with its owner", x -> x.copy(0, -1));
    }

    /** Register 0 holds all C cells, until the calls let them go. */
    private static void letGo(String how, Consumer<SliceHeap> calls) {
        SliceHeap x = new SliceHeap(20);
        x.make(0, 18, 1);
        Check.due("let go " + how, x, 0, "make", 9, 0, 9);
        calls.accept(x);
        Check.due("let go " + how, x, 0, "count", 1);
        Check.due("let go " + how, x, 0, "count", 0);
        Check.due("let go " + how, x, 0, "make", 9, 19, 9);
        Check.due("let go " + how, x, 1, "make", 9, 18, 9);
    }

    /** Value 0 of the object in register 0 has 17 of the 20 cells, until the calls lose it. */
    private static void lost(String how, Consumer<SliceHeap> calls) {
        SliceHeap x = new SliceHeap(20);
        x.make(0, 15, 1);
        x.make(0, 1, 0);
        Check.due("lost " + how, x, 20, "count", 0);
        Check.due("lost " + how, x, 0, "make", 9, 0, 9);
        calls.accept(x);
        int left = 20 - x.count(0);
        Check.due("lost " + how + ", 17 cells or more are free", left >= 17, true);
        Check.due("lost " + how, x, 0, "make", 9, left - 1, 9);
        Check.due("lost " + how, x, 1, "make", 9, left - 2, 9);
    }

    private static void whatNobodyReachesNeverCounts() {
        SliceHeap x = new SliceHeap(20);
        for (int turn = 1; turn <= 60; turn++) {
            int n = turn * 7 % 19;
            Check.due("turn " + turn, x, 1, "make", 0, n, 1);
            Check.due("turn " + turn, x, 1, "count", 1);
            Check.due("turn " + turn, x, 2 + n, "count", 0);
            x.copy(0, -1);
            Check.due("turn " + turn, x, 0, "count", 1);
            Check.due("turn " + turn, x, 0, "count", 0);
            Check.due("turn " + turn, x, turn, "count", 3);
        }
        Check.due("never full", x, 0, "count", 4);
    }

    private static void deepIsReachable() {
        SliceHeap x = new SliceHeap(1200);
        for (int depth = 1; depth <= 400; depth++) {
            Check.due("a chain", x, 1, "make", 0, 1, 0);
        }
        Check.due("a chain of 400", x, 1200, "count", 0);
        Check.due("a chain of 400", x, 0, "make", 1, 0, 1);
        x.get(0, 0, 0);
        Check.due("a chain of 399", x, 0, "make", 1, 2, 1);
        Check.due("a chain of 399", x, 1, "make", 1, 1, 1);
        Check.due("a chain of 399", x, 1200, "count", 0);
        x.number(0, 0);
        Check.due("no chain", x, 3, "count", 0);
    }

    private static void fullOftenIsCounted() {
        SliceHeap x = new SliceHeap(20);
        x.make(0, 18, 1);
        for (int times = 1; times <= 200; times += 2) {
            Check.due("full", x, 0, "make", 1, 0, 0);
            Check.due("full", x, times, "count", 4);
            Check.due("full", x, 0, "grow", 0, 0);
            Check.due("full", x, times + 1, "count", 4);
        }
        Check.due("full", x, 20, "count", 0);
        Check.due("full", x, 18, "look", 0);
        Check.due("full", x, 1, "count", 3);
        x.shrink(0);
        Check.due("room again", x, 18, "grow", 0, 0);
    }

    // "A call that is refused changes nothing."

    private static void refusedOftenChangesNothing() {
        SliceHeap x = new SliceHeap(20);
        x.number(1, 5);
        x.make(0, 2, 1);
        x.push(1);
        for (int bad : States.NO_REGISTERS) {
            refusedFor(x, bad);
        }
        Check.due("refused", x, 2, "look", 0);
        Check.due("refused", x, States.NOTHING, "look", 1);
        int[] counts = {4, 1, 1, 1, 0};
        for (int what = 0; what <= 4; what++) {
            Check.due("refused", x, counts[what], "count", what);
        }
        Check.due("refused takes no room", x, 0, "make", 2, 15, 2);
        Check.due("refused takes no room", x, 1, "make", 2, 14, 2);
        Check.due("refused", x, 0, "pop", 9);
        Check.due("refused", x, 5, "numberIn", 9);
    }

    private static void refusedFor(SliceHeap x, int bad) {
        for (int good = 0; good <= 1; good++) {
            Check.due("refused", x, -1, "make", bad, good, good);
            Check.due("refused", x, -1, "make", good, good, bad);
            Check.due("refused", x, -1, "grow", bad, good);
            Check.due("refused", x, -1, "grow", 0, bad);
            Check.due("refused", x, 0, "number", bad, good);
            Check.due("refused", x, 0, "copy", bad, good);
            Check.due("refused", x, 0, "get", bad, 0, good);
            Check.due("refused", x, 0, "get", good, bad, good);
            Check.due("refused", x, 0, "set", bad, good, good);
            Check.due("refused", x, 0, "set", 0, good, bad);
        }
        Check.due("refused", x, -1, "shrink", bad);
        Check.due("refused", x, -1, "push", bad);
        Check.due("refused", x, -1, "pop", bad);
        Check.due("refused", x, -1, "look", bad);
        Check.due("refused", x, -1, "same", bad, 0);
    }
}
