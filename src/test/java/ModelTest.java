import java.util.ArrayList;
import java.util.Collections;
import java.util.IdentityHashMap;
import java.util.List;
import java.util.Set;

/** Long mixed runs of calls, beside a plain model that is written from the document alone. */
public final class ModelTest {
    private static final int RUNS = 3000;
    private static final int PROMISED_CALLS = 512;
    private static final int CALLS_AFTER = 200;
    private static final int[] CELLS = {20, 21, 23, 30, 50, 100, 300, 1000, 3000, 19, 3001, 0, -7};
    // A call that stands here more than once comes more often.
    private static final String[] NAMES = {"make", "make", "make", "make", "grow", "grow", "grow", "shrink",
        "number", "number", "copy", "get", "get", "get", "set", "set", "set", "push", "push", "pop",
        "look", "numberIn", "same", "count", "count"};

    private long seed;

    private ModelTest(long seed) {
        this.seed = seed;
    }

    public static void main(String[] args) {
        for (int run = 0; run < RUNS; run++) {
            new ModelTest(run).run(run);
        }
        Check.end();
    }

    private void run(int run) {
        int cells = CELLS[run % CELLS.length];
        // Some runs make or push more than they let go, to come to the limits.
        String favourite = run % 3 == 0 ? "make" : run % 5 == 0 ? "push" : null;
        SliceHeap heap = new SliceHeap(cells);
        Model model = new Model(cells);
        for (int i = 0; i < PROMISED_CALLS; i++) {
            Call call = favourite != null && below(3) == 0 ? any(favourite) : any(anyName());
            long got = call.on(heap);
            Check.due("run " + run + " call " + i + " " + call, got, model.answer(call));
        }
        // What these answer is free, but none may throw.
        for (int i = 0; i < CALLS_AFTER; i++) {
            any(anyName()).on(heap);
        }
    }

    // A linear congruence of our own: the same calls in every run of the test.
    private int below(int bound) {
        seed = seed * 6364136223846793005L + 1442695040888963407L;
        return (int) ((seed >>> 33) % bound);
    }

    private String anyName() {
        return NAMES[below(NAMES.length)];
    }

    private int register() {
        return below(40) == 0 ? odd() : below(10);
    }

    private int size() {
        return below(30) == 0 ? odd() : below(4) == 0 ? below(21) : below(4);
    }

    private int odd() {
        int any = below(28) - 3;
        return any == -3 ? Integer.MIN_VALUE : any == 24 ? Integer.MAX_VALUE : any;
    }

    private int number() {
        return below(8) == 0 ? odd() : below(5) - 2;
    }

    private Call any(String name) {
        switch (name) {
            case "make":
            case "set":
                return new Call(name, register(), size(), register());
            case "get":
                return new Call(name, register(), register(), size());
            case "number":
                return new Call(name, register(), number());
            case "copy":
                return new Call(name, register(), below(6) == 0 ? -1 : register());
            case "grow":
            case "same":
                return new Call(name, register(), register());
            case "count":
                return new Call(name, below(40) == 0 ? odd() : below(5));
            default:
                return new Call(name, register());
        }
    }

    /** An object of the model: Java's own garbage is never looked at, only who reaches what. */
    private static final class Item {
        private final List<Object> values = new ArrayList<>();
    }

    /** Values are null for NOTHING, an Integer, or an Item. */
    private static final class Model {
        private final int cells;
        private final Object[] registers = new Object[10];
        private final List<Object> stack = new ArrayList<>();
        private int made;
        private int full;

        private Model(int cells) {
            this.cells = cells < 20 || cells > 3000 ? 300 : cells;
        }

        private long answer(Call call) {
            int[] a = call.args();
            switch (call.name()) {
                case "make":
                    return make(a[0], a[1], a[2]);
                case "grow":
                    return grow(a[0], a[1]);
                case "shrink":
                    return shrink(a[0]);
                case "number":
                    return put(a[0], a[1], is(a[0]));
                case "copy":
                    return put(a[0], a[1] == -1 ? null : in(a[1]), is(a[0]) && (a[1] == -1 || is(a[1])));
                case "get":
                    return put(a[0], value(a[1], a[2]), is(a[0]) && hasValue(a[1], a[2]));
                case "set":
                    return set(a[0], a[1], a[2]);
                case "push":
                    return push(a[0]);
                case "pop":
                    return pop(a[0]);
                case "look":
                    return look(a[0]);
                case "numberIn":
                    return in(a[0]) instanceof Integer v ? v : 0;
                case "same":
                    return same(a[0], a[1]);
                default:
                    return count(a[0]);
            }
        }

        private static boolean is(int r) {
            return 0 <= r && r <= 9;
        }

        private Object in(int r) {
            return is(r) ? registers[r] : null;
        }

        private Item item(int r) {
            return in(r) instanceof Item item ? item : null;
        }

        private boolean hasValue(int r, int k) {
            return item(r) != null && 0 <= k && k < item(r).values.size();
        }

        private Object value(int r, int k) {
            return hasValue(r, k) ? item(r).values.get(k) : null;
        }

        private long put(int r, Object value, boolean allowed) {
            if (allowed) {
                registers[r] = value;
            }
            return allowed ? 1 : 0;
        }

        private Set<Item> reachable() {
            Set<Item> found = Collections.newSetFromMap(new IdentityHashMap<>());
            List<Object> open = new ArrayList<>(stack);
            Collections.addAll(open, registers);
            while (!open.isEmpty()) {
                Object value = open.remove(open.size() - 1);
                if (value instanceof Item item && found.add(item)) {
                    open.addAll(item.values);
                }
            }
            return found;
        }

        private int reachableCells() {
            int sum = 0;
            for (Item item : reachable()) {
                sum += 2 + item.values.size();
            }
            return sum;
        }

        private boolean isFull(int needed) {
            boolean isFull = reachableCells() + needed > cells;
            full += isFull ? 1 : 0;
            return isFull;
        }

        private long make(int r, int n, int s) {
            if (!is(r) || !is(s) || n < 0 || n > 20) {
                return -1;
            }
            if (isFull(2 + n)) {
                return 0;
            }
            Item item = new Item();
            item.values.addAll(Collections.nCopies(n, registers[s]));
            registers[r] = item;
            made++;
            return 1;
        }

        private long grow(int r, int s) {
            if (item(r) == null || !is(s) || item(r).values.size() == 20) {
                return -1;
            }
            if (isFull(1)) {
                return 0;
            }
            item(r).values.add(registers[s]);
            return item(r).values.size();
        }

        private long shrink(int r) {
            if (!hasValue(r, 0)) {
                return -1;
            }
            List<Object> values = item(r).values;
            values.remove(values.size() - 1);
            return values.size();
        }

        private long set(int r, int k, int s) {
            if (!hasValue(r, k) || !is(s)) {
                return 0;
            }
            item(r).values.set(k, registers[s]);
            return 1;
        }

        private long push(int r) {
            if (!is(r) || stack.size() == 50) {
                return -1;
            }
            stack.add(registers[r]);
            registers[r] = null;
            return stack.size();
        }

        private long pop(int r) {
            if (!is(r) || stack.isEmpty()) {
                return -1;
            }
            registers[r] = stack.remove(stack.size() - 1);
            return stack.size();
        }

        private long look(int r) {
            if (!is(r)) {
                return -1;
            }
            if (item(r) != null) {
                return item(r).values.size();
            }
            return registers[r] == null ? -2 : -3;
        }

        private long same(int r, int s) {
            if (!is(r) || !is(s)) {
                return -1;
            }
            if (registers[r] instanceof Integer a && registers[s] instanceof Integer b) {
                return a.intValue() == b.intValue() ? 1 : 0;
            }
            return registers[r] == registers[s] ? 1 : 0;
        }

        private long count(int what) {
            switch (what) {
                case 0:
                    return reachableCells();
                case 1:
                    return reachable().size();
                case 2:
                    return stack.size();
                case 3:
                    return made;
                case 4:
                    return full;
                default:
                    return -1;
            }
        }
    }
}
