import java.util.function.ToIntFunction;

/** One call of the class's face, with its answer as a number: a boolean counts 1 or 0. */
record Call(String name, ToIntFunction<UrlDesk> body) {
    static Call type(int c) {
        return new Call("type((char) " + c + ")", desk -> desk.type((char) c) ? 1 : 0);
    }

    static Call cut(int n) {
        return new Call("cut(" + n + ")", desk -> desk.cut(n) ? 1 : 0);
    }

    static Call read(int slot, int base) {
        return new Call("read(" + slot + ", " + base + ")", desk -> desk.read(slot, base) ? 1 : 0);
    }

    static Call set(int slot, int part) {
        return new Call("set(" + slot + ", " + part + ")", desk -> desk.set(slot, part) ? 1 : 0);
    }

    static Call copy(int from, int to) {
        return new Call("copy(" + from + ", " + to + ")", desk -> desk.copy(from, to) ? 1 : 0);
    }

    static Call length(int slot, int part) {
        return new Call("length(" + slot + ", " + part + ")", desk -> desk.length(slot, part));
    }

    static Call charAt(int slot, int part, int i) {
        return new Call("charAt(" + slot + ", " + part + ", " + i + ")", desk -> desk.charAt(slot, part, i));
    }

    static Call port(int slot) {
        return new Call("port(" + slot + ")", desk -> desk.port(slot));
    }

    static Call segments(int slot) {
        return new Call("segments(" + slot + ")", desk -> desk.segments(slot));
    }

    static Call same(int a, int b, boolean bare) {
        return new Call("same(" + a + ", " + b + ", " + bare + ")", desk -> desk.same(a, b, bare) ? 1 : 0);
    }

    static Call pairs(int slot) {
        return new Call("pairs(" + slot + ")", desk -> desk.pairs(slot));
    }

    static Call pairAt(int slot, int k, boolean value, int i) {
        return new Call("pairAt(" + slot + ", " + k + ", " + value + ", " + i + ")",
                desk -> desk.pairAt(slot, k, value, i));
    }

    int on(UrlDesk desk) {
        return body.applyAsInt(desk);
    }
}
