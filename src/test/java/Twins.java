import java.util.function.Consumer;

/**
 * Pairs of heaps that the same calls bring to one state. One of a pair gets a call that may change
 * nothing, the other does not; then both are asked the same and must answer alike.
 */
final class Twins {
    // More objects of 20 values than fit into the 3000 cells of the largest heap.
    private static final int MOST_MADE = 140;

    private final String name;
    private final int cells;
    private final Consumer<SliceHeap> state;

    Twins(String name, int cells, Consumer<SliceHeap> state) {
        this.name = name;
        this.cells = cells;
        this.state = state;
    }

    void unchanged(long due, String call, int... args) {
        unchangedButFull(0, due, new Call(call, args));
    }

    void full(String call, int... args) {
        unchangedButFull(1, 0, new Call(call, args));
    }

    /** A heap is asked 512 times at most, so what it answers is read in parts, each from a new pair. */
    private void unchangedButFull(int timesFull, long due, Call call) {
        new Pair(due, call).registersAndCounts(timesFull);
        new Pair(due, call).room();
        new Pair(due, call).stack();
        for (int r = 0; r < 10; r++) {
            new Pair(due, call).valuesOf(r);
        }
    }

    private SliceHeap heap() {
        SliceHeap x = new SliceHeap(cells);
        state.accept(x);
        return x;
    }

    private final class Pair {
        private final SliceHeap called = heap();
        private final SliceHeap left = heap();
        private final String story;

        private Pair(long due, Call call) {
            story = name + ": " + call;
            Check.due(story, call.on(called), due);
        }

        private long alike(String call, int... args) {
            Call then = new Call(call, args);
            long due = then.on(left);
            Check.due(story + ", then " + then, then.on(called), due);
            return due;
        }

        private void registersAndCounts(int timesFull) {
            for (int r = 0; r < 10; r++) {
                alike("look", r);
                alike("numberIn", r);
                for (int s = r + 1; s < 10; s++) {
                    alike("same", r, s);
                }
            }
            for (int what = 0; what <= 3; what++) {
                alike("count", what);
            }
            Check.due(story + ", then count(4)", called.count(4), left.count(4) + timesFull);
        }

        /** A chain of objects, large ones first, takes all the room but the last cells. */
        private void room() {
            for (int n = 20; n >= 1; n--) {
                for (int made = 0; made < MOST_MADE && alike("make", 0, n, 0) == 1; made++) {
                    alike("count", 0);
                }
            }
            alike("grow", 0, 0);
            alike("grow", 0, 0);
            alike("count", 3);
        }

        private void stack() {
            for (int popped = 0; popped <= 50 && alike("pop", 9) >= 0; popped++) {
                alike("look", 9);
                alike("numberIn", 9);
                alike("same", 9, 0);
                alike("same", 9, 1);
            }
        }

        private void valuesOf(int r) {
            int other = (r + 1) % 10;
            for (int k = 0; k <= 20 && alike("get", other, r, k) == 1; k++) {
                alike("look", other);
                alike("numberIn", other);
                for (int s = 0; s < 10; s++) {
                    alike("same", other, s);
                }
            }
        }
    }
}
