import java.util.StringJoiner;

/** One call of the face, told by its name; a boolean answer counts 1 or 0. */
record Call(String name, int... args) {
    long on(SliceHeap x) {
        switch (name) {
            case "make":
                return x.make(args[0], args[1], args[2]);
            case "grow":
                return x.grow(args[0], args[1]);
            case "shrink":
                return x.shrink(args[0]);
            case "number":
                return x.number(args[0], args[1]) ? 1 : 0;
            case "copy":
                return x.copy(args[0], args[1]) ? 1 : 0;
            case "get":
                return x.get(args[0], args[1], args[2]) ? 1 : 0;
            case "set":
                return x.set(args[0], args[1], args[2]) ? 1 : 0;
            case "push":
                return x.push(args[0]);
            case "pop":
                return x.pop(args[0]);
            case "look":
                return x.look(args[0]);
            case "numberIn":
                return x.numberIn(args[0]);
            case "same":
                return x.same(args[0], args[1]);
            case "count":
                return x.count(args[0]);
            default:
                throw new IllegalStateException("no call " + name);
        }
    }

    @Override
    public String toString() {
        StringJoiner text = new StringJoiner(", ", name + "(", ")");
        for (int arg : args) {
            text.add(Integer.toString(arg));
        }
        return text.toString();
    }
}
