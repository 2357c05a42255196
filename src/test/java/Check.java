/** Compares answers with what is due, prints each that differs, and ends the test. */
final class Check {
    private static final int MOST_PRINTED = 50;
    private static int asked = 0;
    private static int wrong = 0;

    private Check() {
    }

    static void due(String call, long got, long want) {
        asked++;
        if (got == want) {
            return;
        }
        wrong++;
        if (wrong <= MOST_PRINTED) {
            System.out.println(call + " answered " + got + ", due is " + want);
        }
    }

    static void due(String call, boolean got, boolean want) {
        due(call, got ? 1L : 0L, want ? 1L : 0L);
    }

    /** Where tells the promise, and what brought the heap there if that is not plain. */
    static void due(String where, SliceHeap x, long want, String name, int... args) {
        Call call = new Call(name, args);
        due(where + " " + call, call.on(x), want);
    }

    static void end() {
        System.out.println(asked + " answers, " + wrong + " of them wrong");
        if (wrong != 0 || asked == 0) {
            System.exit(1);
        }
    }
}
