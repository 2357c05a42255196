/** Each promise by hand, in ordinary use; BoundariesTest and FullTest go to the edges. */
public final class PromisesTest {
    public static void main(String[] args) {
        newObject();
        make();
        grow();
        shrink();
        number();
        copy();
        get();
        set();
        push();
        pop();
        stackIsReachable();
        look();
        numberIn();
        same();
        count();
        countOfRingsAndChains();
        whatNobodyReachesMakesRoom();
        usedAgainIsNew();
        mostObjects(20, 10);
        mostObjects(21, 10);
        mostObjects(120, 60);
        objectsAreApart();
        Check.end();
    }

    // Promise 1

    private static void newObject() {
        SliceHeap x = new SliceHeap(100);
        for (int r = 0; r < 10; r++) {
            Check.due("1 look(" + r + ")", x.look(r), States.NOTHING);
        }
        for (int what = 0; what <= 4; what++) {
            Check.due("1 count(" + what + ")", x.count(what), 0);
        }
    }

    // Promise 2

    private static void make() {
        SliceHeap x = new SliceHeap(300);
        x.number(1, -5);
        Check.due("2 make(0, 3, 1)", x.make(0, 3, 1), 1);
        Check.due("2 look(0)", x.look(0), 3);
        for (int k = 0; k < 3; k++) {
            Check.due("2 get(2, 0, k)", x.get(2, 0, k), true);
            Check.due("2 value k", x.numberIn(2), -5);
        }
        Check.due("2 get(2, 0, 3)", x.get(2, 0, 3), false);
        Check.due("2 register s stays", x.numberIn(1), -5);

        Check.due("2 make(3, 0, 9)", x.make(3, 0, 9), 1);
        Check.due("2 look(3)", x.look(3), 0);
        Check.due("2 make(9, 20, 0)", x.make(9, 20, 0), 1);
        Check.due("2 look(9)", x.look(9), 20);
        Check.due("2 get(8, 9, 19)", x.get(8, 9, 19), true);
        Check.due("2 the object itself is the value", x.same(8, 0), 1);
        Check.due("2 count(0)", x.count(0), 5 + 2 + 22);

        Check.due("2 make(0, 1, 0)", x.make(0, 1, 0), 1);
        Check.due("2 get(7, 0, 0)", x.get(7, 0, 0), true);
        Check.due("2 it has what the register held", x.same(7, 8), 1);
        Check.due("2 make(4, 2, 5)", x.make(4, 2, 5), 1);
        x.number(6, 1);
        Check.due("2 get(6, 4, 1)", x.get(6, 4, 1), true);
        Check.due("2 a value NOTHING", x.look(6), States.NOTHING);
    }

    // Promise 3

    private static void grow() {
        SliceHeap x = new SliceHeap(100);
        x.make(0, 0, 0);
        for (int size = 1; size <= 20; size++) {
            x.number(1, 100 + size);
            Check.due("3 grow(0, 1)", x.grow(0, 1), size);
            Check.due("3 look(0)", x.look(0), size);
            Check.due("3 count(0)", x.count(0), 2 + size);
        }
        for (int k = 0; k < 20; k++) {
            Check.due("3 get(2, 0, k)", x.get(2, 0, k), true);
            Check.due("3 behind the others", x.numberIn(2), 101 + k);
        }
        Check.due("3 grow with 20", x.grow(0, 1), -1);
        Check.due("3 it still has 20", x.look(0), 20);
        x.make(9, 0, 9);
        Check.due("3 grow(9, 9)", x.grow(9, 9), 1);
        x.get(8, 9, 0);
        Check.due("3 an object in itself", x.same(8, 9), 1);
        Check.due("3 grow(9, 7), NOTHING", x.grow(9, 7), 2);
        x.get(8, 9, 1);
        Check.due("3 a value NOTHING", x.look(8), States.NOTHING);
    }

    // Promise 4

    private static void shrink() {
        SliceHeap x = new SliceHeap(100);
        x.number(1, 4);
        x.make(0, 20, 1);
        for (int size = 19; size >= 0; size--) {
            Check.due("4 shrink(0)", x.shrink(0), size);
            Check.due("4 look(0)", x.look(0), size);
            Check.due("4 the last is gone", x.get(2, 0, size), false);
            Check.due("4 count(0)", x.count(0), 2 + size);
        }
        Check.due("4 shrink with none", x.shrink(0), -1);
        Check.due("4 it stays an object", x.look(0), 0);
        Check.due("4 shrink of NOTHING", x.shrink(5), -1);
        Check.due("4 shrink of a number", x.shrink(1), -1);
        Check.due("4 the number stays", x.numberIn(1), 4);
        x.make(3, 0, 3);
        x.grow(0, 3);
        x.copy(3, -1);
        Check.due("4 held as the last value", x.count(1), 2);
        x.shrink(0);
        Check.due("4 the last value is lost", x.count(1), 1);
    }

    // Promise 5

    private static void number() {
        SliceHeap x = new SliceHeap(20);
        int[] numbers = {0, 1, -1, 20, Integer.MIN_VALUE, Integer.MAX_VALUE, -2, -3};
        for (int v : numbers) {
            Check.due("5 number(0, " + v + ")", x.number(0, v), true);
            Check.due("5 look(0)", x.look(0), States.NUMBER);
            Check.due("5 numberIn(0)", x.numberIn(0), v);
            Check.due("5 number(9, " + v + ")", x.number(9, v), true);
            Check.due("5 numberIn(9)", x.numberIn(9), v);
        }
        x.make(0, 2, 1);
        Check.due("5 over an object", x.number(0, 8), true);
        Check.due("5 the object is let go", x.count(1), 0);
    }

    // Promise 6

    private static void copy() {
        SliceHeap x = new SliceHeap(50);
        x.number(0, 12);
        Check.due("6 copy(9, 0)", x.copy(9, 0), true);
        Check.due("6 numberIn(9)", x.numberIn(9), 12);
        Check.due("6 s stays", x.numberIn(0), 12);
        x.make(1, 2, 0);
        Check.due("6 copy(0, 1)", x.copy(0, 1), true);
        Check.due("6 one object", x.same(0, 1), 1);
        Check.due("6 no new object", x.count(1), 1);
        x.grow(0, 9);
        Check.due("6 it is the same object", x.look(1), 3);
        Check.due("6 copy(1, 1)", x.copy(1, 1), true);
        Check.due("6 itself", x.look(1), 3);
        Check.due("6 copy(1, -1)", x.copy(1, -1), true);
        Check.due("6 NOTHING", x.look(1), States.NOTHING);
        Check.due("6 copy(0, 2) of NOTHING", x.copy(0, 2), true);
        Check.due("6 the object is let go", x.count(0), 0);
    }

    // Promises 7 and 8

    private static void get() {
        SliceHeap x = new SliceHeap(50);
        x.number(1, 31);
        x.make(0, 20, 1);
        x.number(1, 32);
        x.set(0, 19, 1);
        Check.due("7 get(9, 0, 0)", x.get(9, 0, 0), true);
        Check.due("7 value 0", x.numberIn(9), 31);
        Check.due("7 get(9, 0, 19)", x.get(9, 0, 19), true);
        Check.due("7 value 19", x.numberIn(9), 32);
        x.number(2, 6);
        Check.due("7 get of a number", x.get(2, 1, 0), false);
        Check.due("7 get of NOTHING", x.get(2, 5, 0), false);
        x.make(4, 0, 4);
        Check.due("7 get of none", x.get(2, 4, 0), false);
        Check.due("7 false changes nothing", x.numberIn(2), 6);
        Check.due("7 get(0, 0, 3)", x.get(0, 0, 3), true);
        Check.due("7 over its own object", x.numberIn(0), 31);
        Check.due("7 that is let go", x.count(1), 1);
    }

    private static void set() {
        SliceHeap x = new SliceHeap(50);
        x.number(1, 41);
        x.make(0, 20, 2);
        Check.due("8 set(0, 0, 1)", x.set(0, 0, 1), true);
        Check.due("8 set(0, 19, 1)", x.set(0, 19, 1), true);
        for (int k = 0; k < 20; k++) {
            x.get(3, 0, k);
            Check.due("8 value " + k, x.look(3), k == 0 || k == 19 ? States.NUMBER : States.NOTHING);
        }
        Check.due("8 s stays", x.numberIn(1), 41);
        Check.due("8 look(0)", x.look(0), 20);
        x.get(3, 0, 0);
        Check.due("8 false changes nothing", x.numberIn(3), 41);
        Check.due("8 set of a number", x.set(1, 0, 1), false);
        Check.due("8 set of NOTHING", x.set(5, 0, 1), false);
        x.make(4, 0, 4);
        Check.due("8 set of none", x.set(4, 0, 1), false);
        Check.due("8 set(0, 5, 4)", x.set(0, 5, 4), true);
        x.copy(4, -1);
        Check.due("8 a value is reachable", x.count(1), 2);
        Check.due("8 set over it", x.set(0, 5, 1), true);
        Check.due("8 no more", x.count(1), 1);
    }

    // Promises 9 and 10

    private static void push() {
        SliceHeap x = new SliceHeap(20);
        for (int size = 1; size <= 50; size++) {
            x.number(0, size);
            Check.due("9 push(0)", x.push(0), size);
            Check.due("9 r holds NOTHING", x.look(0), States.NOTHING);
            Check.due("9 count(2)", x.count(2), size);
        }
        x.number(9, 77);
        Check.due("9 push with 50", x.push(9), -1);
        Check.due("9 refused changes nothing", x.numberIn(9), 77);
        for (int left = 49; left >= 0; left--) {
            Check.due("10 pop(9)", x.pop(9), left);
            Check.due("10 the last one", x.numberIn(9), left + 1);
        }
        Check.due("10 pop with none", x.pop(9), -1);
        Check.due("10 refused changes nothing", x.numberIn(9), 1);
        Check.due("9 push(9)", x.push(9), 1);
        Check.due("9 push of NOTHING", x.push(9), 2);
        Check.due("9 count(2)", x.count(2), 2);
    }

    private static void pop() {
        SliceHeap x = new SliceHeap(20);
        x.make(0, 1, 0);
        x.copy(1, 0);
        x.push(0);
        x.push(5);
        x.number(6, 3);
        Check.due("10 pop(6)", x.pop(6), 1);
        Check.due("10 NOTHING", x.look(6), States.NOTHING);
        Check.due("10 pop(6)", x.pop(6), 0);
        Check.due("10 the object", x.same(6, 1), 1);
        Check.due("10 count(2)", x.count(2), 0);
    }

    private static void stackIsReachable() {
        SliceHeap x = new SliceHeap(20);
        x.make(0, 18, 0);
        x.push(0);
        Check.due("9 the stack holds it", x.count(0), 20);
        Check.due("9 so it is full", x.make(1, 0, 1), 0);
        x.pop(3);
        Check.due("10 the register holds it", x.count(1), 1);
        x.number(3, 0);
        Check.due("10 the stack holds it no more", x.count(1), 0);
        Check.due("10 nor its cells", x.make(1, 18, 1), 1);
    }

    // Promises 11, 12 and 13

    private static void look() {
        SliceHeap x = new SliceHeap(50);
        Check.due("11 NOTHING", x.look(0), -2);
        x.number(0, 0);
        Check.due("11 a number", x.look(0), -3);
        x.make(0, 0, 0);
        Check.due("11 none", x.look(0), 0);
        x.make(9, 20, 0);
        Check.due("11 20", x.look(9), 20);
    }

    private static void numberIn() {
        SliceHeap x = new SliceHeap(50);
        Check.due("12 of NOTHING", x.numberIn(0), 0);
        x.make(0, 7, 0);
        x.make(1, 7, 0);
        Check.due("12 of an object", x.numberIn(0), 0);
        Check.due("12 of another", x.numberIn(1), 0);
        x.number(9, Integer.MIN_VALUE);
        Check.due("12 the least", x.numberIn(9), Integer.MIN_VALUE);
        x.number(9, Integer.MAX_VALUE);
        Check.due("12 the greatest", x.numberIn(9), Integer.MAX_VALUE);
    }

    private static void same() {
        SliceHeap x = new SliceHeap(50);
        Check.due("13 NOTHING twice", x.same(0, 9), 1);
        x.number(0, 0);
        Check.due("13 a number and NOTHING", x.same(0, 9), 0);
        x.number(1, 0);
        Check.due("13 like numbers", x.same(0, 1), 1);
        x.number(1, 1);
        Check.due("13 other numbers", x.same(0, 1), 0);
        x.number(1, -1);
        Check.due("13 -1 and NOTHING", x.same(1, 9), 0);
        x.make(2, 1, 0);
        x.make(3, 1, 0);
        Check.due("13 two objects", x.same(2, 3), 0);
        Check.due("13 itself", x.same(2, 2), 1);
        Check.due("13 an object and NOTHING", x.same(2, 9), 0);
        for (int v = -3; v <= 3; v++) {
            x.number(4, v);
            Check.due("13 an object and a number", x.same(2, 4), 0);
            Check.due("13 a number and an object", x.same(4, 3), 0);
        }
        x.copy(5, 3);
        Check.due("13 one object", x.same(5, 3), 1);
    }

    // Promise 14

    private static void count() {
        SliceHeap x = new SliceHeap(20);
        x.make(0, 3, 0);
        x.make(1, 4, 0);
        x.make(1, 4, 0);
        x.copy(2, 1);
        x.push(2);
        x.push(3);
        Check.due("14 cells", x.count(0), 11);
        Check.due("14 objects", x.count(1), 2);
        Check.due("14 on the stack", x.count(2), 2);
        Check.due("14 made in all", x.count(3), 3);
        x.make(4, 20, 0);
        x.make(4, 8, 0);
        x.make(4, 7, 0);
        x.grow(4, 0);
        Check.due("14 made in all", x.count(3), 4);
        Check.due("14 how often it was full", x.count(4), 3);
        Check.due("14 cells", x.count(0), 20);
    }

    private static void countOfRingsAndChains() {
        SliceHeap ring = new SliceHeap(20);
        ring.make(0, 1, 0);
        ring.make(1, 1, 0);
        ring.set(0, 0, 1);
        Check.due("14 a ring", ring.count(1), 2);
        ring.copy(0, -1);
        Check.due("14 a ring, held once", ring.count(0), 6);
        ring.copy(1, -1);
        Check.due("14 a ring that nobody holds", ring.count(0), 0);
        Check.due("14 its cells are free", ring.make(0, 18, 0), 1);

        SliceHeap chain = new SliceHeap(3000);
        for (int length = 1; length <= 500; length++) {
            Check.due("14 chain make", chain.make(0, 1, 0), 1);
        }
        Check.due("14 a chain of 500", chain.count(1), 500);
        Check.due("14 its cells", chain.count(0), 1500);
        chain.get(0, 0, 0);
        Check.due("14 without its head", chain.count(1), 499);
        Check.due("14 made in all", chain.count(3), 500);
    }

    // Terms: what nobody reaches makes room

    private static void whatNobodyReachesMakesRoom() {
        SliceHeap x = new SliceHeap(20);
        x.number(1, 1);
        for (int turn = 0; turn < 250; turn++) {
            Check.due("2 make again", x.make(0, 8, 1), 1);
            Check.due("2 let go", x.copy(0, -1), true);
        }
        Check.due("14 made in all", x.count(3), 250);
        Check.due("14 never full", x.count(4), 0);
    }

    private static void usedAgainIsNew() {
        SliceHeap x = new SliceHeap(20);
        x.number(1, 5);
        x.make(0, 18, 1);
        x.copy(0, -1);
        x.make(0, 2, 2);
        Check.due("2 look(0)", x.look(0), 2);
        x.get(3, 0, 1);
        Check.due("2 nothing is left of the old", x.look(3), States.NOTHING);
        Check.due("2 nor of its size", x.get(3, 0, 2), false);
        x.grow(0, 2);
        x.get(3, 0, 2);
        Check.due("3 the new value", x.look(3), States.NOTHING);
        Check.due("14 count(0)", x.count(0), 5);
    }

    private static void mostObjects(int cells, int most) {
        SliceHeap x = new SliceHeap(cells);
        String name = "2 SliceHeap(" + cells + ") ";
        for (int made = 0; made < most; made++) {
            Check.due(name + "make", x.make(made % 10, 0, 0), 1);
            if (made < most - 10) {
                x.push(made % 10);
            }
        }
        Check.due(name + "all are held", x.count(1), most);
        Check.due(name + "one object more", x.make(0, 0, 0), 0);
        for (int r = 1; r < 10; r++) {
            Check.due(name + "no two are one", x.same(0, r), 0);
        }
        x.copy(4, -1);
        Check.due(name + "one is let go", x.make(5, 0, 0), 1);
        Check.due(name + "which leaves", x.count(1), most - 1);
    }

    private static void objectsAreApart() {
        SliceHeap x = new SliceHeap(20);
        SliceHeap y = new SliceHeap(20);
        x.make(0, 18, 0);
        x.push(1);
        Check.due("1 another heap's register", y.look(0), States.NOTHING);
        Check.due("1 another heap's room", y.make(0, 18, 0), 1);
        Check.due("1 another heap's stack", y.count(2), 0);
    }
}
