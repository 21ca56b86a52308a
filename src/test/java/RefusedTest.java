import java.util.List;
import java.util.function.Consumer;

/** Every call that the document refuses, or that only asks: it answers so, and nothing else has changed. */
public final class RefusedTest {
    private static final int MIN = Integer.MIN_VALUE;
    private static final int MAX = Integer.MAX_VALUE;
    private static final String NONE = "-1";
    private static final String NOT = "0";
    private static final List<Consumer<PackDesk>> STATES = List.of(States::fresh, States::busy, States::full);
    private static final Due due = new Due();

    public static void main(String[] args) {
        for (Consumer<PackDesk> state : STATES) {
            PackDesk desk = new PackDesk();
            state.accept(desk);
            promise3(state, desk.about(0));
            promises4And5(state, desk.about(0));
            promises10To13(state, desk.parts(), desk.blocks());
            promises15And16And20(state, desk.about(1));
            promise17(state);
            promises18And19(state);
            asked(state, desk);
        }
        promise6();
        promise18TooMany();
        due.end();
    }

    /** end: "NONE, and nothing comes, if n is not 0 .. 20, times is not, or it would have more than 6000." */
    private static void promise3(Consumer<PackDesk> state, int size) {
        for (int n : new int[] {MIN, -20, -1, 21, 22, 256, MAX}) {
            for (int times : new int[] {1, 2, 100}) {
                refused("end", state, desk -> desk.end(n, times), NONE, n, times);
            }
        }
        for (int times : new int[] {MIN, -1, 0, 101, 102, 256, 65537, MAX}) {
            for (int n : new int[] {0, 1, 20}) {
                refused("end", state, desk -> desk.end(n, times), NONE, n, times);
            }
        }
        for (int n = 1; n <= 20; n++) {
            int taken = n;
            // The first number of times that is too many, where there is one.
            int times = (6000 - size) / n + 1;
            if (times <= 100) {
                refused("end", state, desk -> desk.end(taken, times), NONE, n, times);
            }
        }
    }

    /** cut: "whether n is 0 .. as many as it has"; flip: "whether there are such". */
    private static void promises4And5(Consumer<PackDesk> state, int size) {
        for (int n : new int[] {MIN, -1, size + 1, size + 2, 6001, MAX}) {
            refused("cut", state, desk -> desk.cut(n) ? 1 : 0, NOT, n);
        }
        for (int i : new int[] {MIN, -1, size, size + 1, 6000, 6099, 6100, MAX}) {
            refused("flip", state, desk -> desk.flip(i, 0) ? 1 : 0, NOT, i, 0);
        }
        for (int bit : new int[] {MIN, -1, 8, 9, 32, 33, MAX}) {
            refused("flip", state, desk -> desk.flip(0, bit) ? 1 : 0, NOT, 0, bit);
        }
        // All its bytes alone: that is not refused, and changes nothing either.
        refused("cut", state, desk -> desk.cut(size) ? 1 : 0, "1", size);
    }

    /** take: "IllegalStateException: they are more than 6000." */
    private static void promise6() {
        for (int size : new int[] {5951, 5952, 6000}) {
            refused("take", desk -> {
                Desks.put(desk, Desks.noise(size, size));
                desk.pack();
                desk.cut(17);
            }, PackDesk::take, "IllegalStateException");
        }
    }

    /** part, block, code: "NONE if there is none such, or for another what." */
    private static void promises10To13(Consumer<PackDesk> state, int parts, int blocks) {
        for (int k : new int[] {MIN, -1, parts, parts + 1, 6000, MAX}) {
            for (int what = 0; what <= 2; what++) {
                int asked = what;
                refused("part", state, desk -> desk.part(k, asked), NONE, k, what);
            }
        }
        for (int what : new int[] {MIN, -1, 3, 4, MAX}) {
            refused("part", state, desk -> desk.part(0, what), NONE, 0, what);
        }
        for (int k : new int[] {MIN, -1, blocks, blocks + 1, 10, MAX}) {
            for (int what = 0; what <= 5; what++) {
                int asked = what;
                refused("block", state, desk -> desk.block(k, asked), NONE, k, what);
            }
            for (int which = 0; which <= 2; which++) {
                int asked = which;
                refused("code", state, desk -> desk.code(k, asked, 0), NONE, k, which, 0);
            }
        }
        for (int what : new int[] {MIN, -1, 6, 7, MAX}) {
            refused("block", state, desk -> desk.block(0, what), NONE, 0, what);
            refused("code", state, desk -> desk.code(0, what, 0), NONE, 0, what, 0);
        }
        refused("code", state, desk -> desk.code(0, 3, 0), NONE, 0, 3, 0);
        int[][] symbols = {{MIN, -1, 286, 287, 288, MAX}, {MIN, -1, 30, 31, 32, MAX}, {MIN, -1, 19, 20, MAX}};
        for (int which = 0; which <= 2; which++) {
            for (int symbol : symbols[which]) {
                int asked = which;
                refused("code", state, desk -> desk.code(0, asked, symbol), NONE, 0, which, symbol);
            }
        }
    }

    /** fault, output, about: "NONE for another what", "NONE if there is none". */
    private static void promises15And16And20(Consumer<PackDesk> state, int size) {
        for (int what : new int[] {MIN, -1, 2, 3, MAX}) {
            refused("fault", state, desk -> desk.fault(what), NONE, what);
            refused("about", state, desk -> desk.about(what), NONE, what);
        }
        for (int i : new int[] {MIN, -1, size, size + 1, 6099, 6100, MAX}) {
            refused("output", state, desk -> desk.output(i), NONE, i);
        }
    }

    /** weigh: "the symbol is not 0 .. 63", "the weight is not 0 .. 1000000". */
    private static void promise17(Consumer<PackDesk> state) {
        for (int symbol : new int[] {MIN, -64, -1, 64, 65, 127, 128, MAX}) {
            for (int weight : new int[] {0, 1, 1000000, -1, 1000001}) {
                refused("weigh", state, desk -> weigh(desk, symbol, weight), "IndexOutOfBoundsException",
                    symbol, weight);
            }
        }
        for (int symbol : new int[] {0, 1, 62, 63}) {
            for (int weight : new int[] {MIN, -1000000, -1, 1000001, 1000002, MAX}) {
                refused("weigh", state, desk -> weigh(desk, symbol, weight), "IllegalArgumentException",
                    symbol, weight);
            }
        }
    }

    /** measure: "the limit is not 1 .. 15"; length: "NONE if the symbol is not 0 .. 63". */
    private static void promises18And19(Consumer<PackDesk> state) {
        for (int limit : new int[] {MIN, -1, 0, 16, 17, 32, 33, 38, MAX}) {
            refused("measure", state, desk -> desk.measure(limit), "IllegalArgumentException", limit);
        }
        for (int symbol : new int[] {MIN, -1, 64, 65, MAX}) {
            refused("length", state, desk -> desk.length(symbol), NONE, symbol);
        }
    }

    /** measure: "more symbols have weights than codes of that length are (the lengths stay)". */
    private static void promise18TooMany() {
        for (int limit = 1; limit <= 5; limit++) {
            int bound = limit;
            for (int more = 1; more <= 2; more++) {
                int symbols = (1 << limit) + more;
                refused("measure", desk -> {
                    States.busy(desk);
                    for (int i = 0; i < 64; i++) {
                        desk.weigh(63 - i, i < symbols ? 1 + i : 0);
                    }
                }, desk -> desk.measure(bound), "IllegalStateException", limit, symbols);
            }
            refused("measure", States::full, desk -> desk.measure(bound), "IllegalStateException", limit, 64);
        }
        refused("measure", States::full, desk -> desk.measure(0), "IllegalArgumentException", 0, 64);
    }

    /** Calls that only ask leave all as it is, too. */
    private static void asked(Consumer<PackDesk> state, PackDesk desk) {
        refused("crc", state, PackDesk::crc, "" + desk.crc());
        refused("parts", state, PackDesk::parts, "" + desk.parts());
        refused("blocks", state, PackDesk::blocks, "" + desk.blocks());
        refused("part", state, x -> x.part(0, 0), "" + desk.part(0, 0), 0, 0);
        refused("block", state, x -> x.block(0, 3), "" + desk.block(0, 3), 0, 3);
        refused("code", state, x -> x.code(0, 0, 256), "" + desk.code(0, 0, 256), 0, 0, 256);
        refused("fault", state, x -> x.fault(0), "" + desk.fault(0), 0);
        refused("fault", state, x -> x.fault(1), "" + desk.fault(1), 1);
        refused("output", state, x -> x.output(0), "" + desk.output(0), 0);
        refused("length", state, x -> x.length(3), "" + desk.length(3), 3);
        refused("about", state, x -> x.about(0), "" + desk.about(0), 0);
        refused("about", state, x -> x.about(1), "" + desk.about(1), 1);
    }

    private static int weigh(PackDesk desk, int symbol, int weight) {
        desk.weigh(symbol, weight);
        return 0;
    }

    private static void refused(String name, Consumer<PackDesk> state, Told.Call call, String want, int... given) {
        Told.refused(due, name + java.util.Arrays.toString(given), state, call, want);
    }
}
