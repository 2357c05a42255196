/** Runs of 512 calls on one heap, the most that the document promises, with answers known beforehand. */
public final class LongRunsTest {
    private static final int PROMISED_CALLS = 512;

    public static void main(String[] args) {
        onlyGarbage();
        garbageOfAllSizes();
        chainUntilFull();
        chainUpAndDown();
        growAndShrink();
        stackUpAndDown();
        rings();
        queue();
        fullAllTheTime();
        refusedAllTheTime();
        Check.end();
    }

    /** A heap that counts its calls, so that a run is as long as it should be. */
    private static final class Run {
        private final String name;
        private final SliceHeap heap;
        private int calls;

        private Run(String name, int cells) {
            this.name = name;
            heap = new SliceHeap(cells);
        }

        private void due(long want, String call, int... args) {
            calls++;
            Check.due(name + ", call " + calls + ":", heap, want, call, args);
        }

        private int left() {
            return PROMISED_CALLS - calls;
        }

        /** The counts at the end of the run; the calls that are left before them are all count(0). */
        private void end(int... counts) {
            while (left() > counts.length) {
                due(counts[0], "count", 0);
            }
            for (int what = 0; what < counts.length; what++) {
                due(counts[what], "count", what);
            }
            Check.due(name + ": calls", calls, PROMISED_CALLS);
        }
    }

    private static void onlyGarbage() {
        Run run = new Run("only garbage", 20);
        int made = 0;
        while (run.left() > 5) {
            // The old one and the new one are exactly C.
            run.due(1, "make", 0, 8, 1);
            made++;
        }
        run.end(10, 1, 0, made, 0);
    }

    private static void garbageOfAllSizes() {
        Run run = new Run("garbage of all sizes", 20);
        int made = 0;
        while (run.left() > 7) {
            int r = made % 10;
            int n = made % 19;
            run.due(1, "make", r, n, (r + 5) % 10);
            run.due(n, "look", r);
            run.due(1, "copy", r, -1);
            made++;
        }
        run.end(0, 0, 0, made, 0);
    }

    private static void chainUntilFull() {
        Run run = new Run("a chain until full", 3000);
        for (int length = 1; length <= 136; length++) {
            run.due(1, "make", 0, 20, 0);
            run.due(22 * length, "count", 0);
        }
        run.due(0, "make", 0, 7, 0);
        run.due(1, "make", 0, 6, 0);
        int full = 1;
        while (run.left() > 6) {
            run.due(0, "grow", 0, 0);
            run.due(0, "make", 1, 0, 0);
            full += 2;
        }
        run.end(3000, 137, 0, 137, full);
    }

    private static void chainUpAndDown() {
        Run run = new Run("a chain up and down", 60);
        int turns = 0;
        while (run.left() >= 42 + 5) {
            for (int length = 1; length <= 20; length++) {
                run.due(1, "make", 0, 1, 0);
            }
            run.due(0, "make", 0, 0, 0);
            for (int length = 19; length >= 0; length--) {
                run.due(1, "get", 0, 0, 0);
            }
            run.due(-2, "look", 0);
            turns++;
        }
        run.end(0, 0, 0, 20 * turns, turns);
    }

    private static void growAndShrink() {
        Run run = new Run("grow and shrink", 22);
        run.due(1, "make", 0, 0, 0);
        while (run.left() > 42 + 5) {
            for (int size = 1; size <= 20; size++) {
                run.due(size, "grow", 0, 0);
            }
            run.due(-1, "grow", 0, 0);
            for (int size = 19; size >= 0; size--) {
                run.due(size, "shrink", 0);
            }
            run.due(-1, "shrink", 0);
        }
        run.end(2, 1, 0, 1, 0);
    }

    private static void stackUpAndDown() {
        Run run = new Run("the stack up and down", 100);
        for (int turn = 1; turn <= 3; turn++) {
            for (int size = 1; size <= 50; size++) {
                run.due(1, "make", size % 10, 0, 0);
                run.due(size, "push", size % 10);
            }
            run.due(-1, "push", 0);
            run.due(0, "make", 0, 0, 0);
            for (int left = 49; left >= 0; left--) {
                run.due(left, "pop", 9);
            }
            run.due(-1, "pop", 9);
        }
        // Register 9 holds the first object that each turn made, so the last turn's alone is left.
        run.end(2, 1, 0, 150, 3);
    }

    private static void rings() {
        Run run = new Run("rings", 20);
        int turns = 0;
        while (run.left() >= 9 + 5) {
            run.due(1, "make", 0, 1, 3);
            run.due(1, "make", 1, 1, 0);
            run.due(1, "make", 2, 1, 1);
            run.due(1, "set", 0, 0, 2);
            run.due(1, "copy", 0, -1);
            run.due(1, "number", 1, turns);
            run.due(9, "count", 0);
            run.due(1, "copy", 2, -1);
            run.due(0, "count", 1);
            turns++;
        }
        run.end(0, 0, 0, 3 * turns, 0);
    }

    /** A list that is lengthened at its end and shortened at its front, four objects long at most. */
    private static void queue() {
        Run run = new Run("a queue", 20);
        run.due(1, "make", 0, 2, 9);
        run.due(1, "copy", 1, 0);
        int last = 0;
        while (run.left() >= 9 + 5) {
            last++;
            run.due(1, "number", 3, last);
            run.due(1, "make", 2, 2, 3);
            run.due(1, "set", 1, 0, 2);
            run.due(1, "copy", 1, 2);
            if (last > 3) {
                run.due(20, "count", 0);
                run.due(0, "make", 4, 0, 9);
                run.due(1, "get", 0, 0, 0);
                run.due(1, "get", 5, 0, 1);
                run.due(last - 3, "numberIn", 5);
            }
        }
        run.end(16, 4, 0, last + 1, last - 3);
    }

    private static void fullAllTheTime() {
        Run run = new Run("full all the time", 20);
        run.due(1, "make", 0, 18, 1);
        int full = 0;
        while (run.left() > 5) {
            if (full % 2 == 0) {
                run.due(0, "make", full % 10, full % 21, 0);
            } else {
                run.due(0, "grow", 0, full % 10);
            }
            full++;
        }
        run.end(20, 1, 0, 1, full);
    }

    private static void refusedAllTheTime() {
        Run run = new Run("refused all the time", 20);
        run.due(1, "make", 0, 3, 1);
        run.due(1, "push", 1);
        while (run.left() >= 11 + 5) {
            run.due(-1, "make", 10, 1, 0);
            run.due(-1, "grow", 0, -1);
            run.due(-1, "shrink", 1);
            run.due(0, "number", 10, 5);
            run.due(0, "copy", 0, -2);
            run.due(0, "get", 0, 0, 3);
            run.due(0, "set", 0, -1, 0);
            run.due(-1, "push", -1);
            run.due(-1, "pop", 10);
            run.due(-1, "look", -1);
            run.due(-1, "same", 0, 10);
        }
        run.end(5, 1, 1, 1, 0);
    }
}
