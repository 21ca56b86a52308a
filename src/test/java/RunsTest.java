import java.util.Random;
import java.util.function.Supplier;

/** Runs of 512 calls by chance, many at the bounds: each answer is the plain desk's, up to the 512th call. */
public final class RunsTest {
    private static final int MOST_CALLS = 512;
    private static final Due due = new Due();

    private final Random random;
    private final int theme;
    private final PackDesk desk = new PackDesk();
    private final PlainDesk plain = new PlainDesk();

    private RunsTest(int seed) {
        random = new Random(seed);
        theme = seed % 4;
    }

    public static void main(String[] args) {
        for (int seed = 0; seed < 120; seed++) {
            RunsTest run = new RunsTest(seed);
            for (int n = 1; n <= MOST_CALLS; n++) {
                run.call(n);
            }
        }
        theDearest();
        due.end();
    }

    /** "An object is used for at most 512 calls after it has been made": the last is answered as the first was. */
    private static void theDearest() {
        PackDesk desk = new PackDesk();
        Desks.put(desk, Desks.noise(2000, 512));
        int size = desk.pack();
        for (int n = 202; n <= MOST_CALLS - 2; n++) {
            due.same("pack() by call " + n, desk.pack(), size);
        }
        due.same("take() by call 511", desk.take(), size);
        due.same("unpack() by call 512", desk.unpack(), 2000);

        PackDesk full = new PackDesk();
        for (int i = 0; i < 3; i++) {
            full.feed(i, -i, 77 * i, 1, -1);
            full.end(20, 100);
        }
        size = full.pack();
        due.same("take() by call 8", full.take(), size);
        for (int n = 9; n <= MOST_CALLS; n++) {
            due.same("unpack() by call " + n, full.unpack(), 6000);
        }
    }

    private void call(int n) {
        switch (kind()) {
            case 0 -> feed(n);
            case 1 -> end(n);
            case 2 -> cut(n);
            case 3 -> flip(n);
            case 4 -> same(n, "take", desk::take, plain::take);
            case 5 -> same(n, "crc", desk::crc, plain::crc);
            case 6 -> same(n, "pack", desk::pack, plain::pack);
            case 7 -> same(n, "parts", desk::parts, plain::parts);
            case 8 -> part(n);
            case 9 -> same(n, "blocks", desk::blocks, plain::blocks);
            case 10 -> block(n);
            case 11 -> code(n);
            case 12 -> same(n, "unpack", desk::unpack, plain::unpack);
            case 13 -> fault(n);
            case 14 -> output(n);
            case 15 -> weigh(n);
            case 16 -> measure(n);
            case 17 -> length(n);
            default -> about(n);
        }
    }

    /** All kinds, and those of the theme more often: the tape, packing, unpacking, the scale. */
    private int kind() {
        int[][] often = {{0, 1, 2, 3, 4, 5, 18}, {0, 1, 6, 8, 10, 11, 14}, {1, 3, 4, 6, 12, 12, 13, 13},
            {15, 15, 15, 16, 17}};
        return random.nextBoolean() ? random.nextInt(19) : often[theme][random.nextInt(often[theme].length)];
    }

    private void feed(int n) {
        int[] words = new int[5];
        for (int i = 0; i < 5; i++) {
            int kind = random.nextInt(4);
            words[i] = kind == 0 ? random.nextInt() : kind == 1 ? 0x61626364 : kind == 2 ? 0x01010101 : 0;
        }
        same(n, "feed", () -> {
            desk.feed(words[0], words[1], words[2], words[3], words[4]);
            return 0;
        }, () -> {
            plain.feed(words[0], words[1], words[2], words[3], words[4]);
            return 0;
        });
    }

    private void end(int n) {
        int count = random.nextInt(3) == 0 ? near(20) : 1 + random.nextInt(20);
        int times = random.nextInt(3) == 0 ? near(100) : 1 + random.nextInt(theme == 0 ? 60 : 6);
        same(n, "end(" + count + ", " + times + ")", () -> desk.end(count, times), () -> plain.end(count, times));
    }

    private void cut(int n) {
        int size = near(plain.about(0));
        same(n, "cut(" + size + ")", () -> desk.cut(size), () -> plain.cut(size));
    }

    private void flip(int n) {
        int i = random.nextInt(4) == 0 ? near(plain.about(0)) : random.nextInt(1 + plain.about(0));
        int bit = random.nextInt(4) == 0 ? near(7) : random.nextInt(8);
        same(n, "flip(" + i + ", " + bit + ")", () -> desk.flip(i, bit), () -> plain.flip(i, bit));
    }

    private void part(int n) {
        int k = random.nextInt(3) == 0 ? near(plain.parts()) : random.nextInt(1 + plain.parts());
        int what = random.nextInt(5) - 1;
        same(n, "part(" + k + ", " + what + ")", () -> desk.part(k, what), () -> plain.part(k, what));
    }

    private void block(int n) {
        int k = random.nextInt(3) == 0 ? near(plain.blocks()) : random.nextInt(1 + plain.blocks());
        int what = random.nextInt(8) - 1;
        same(n, "block(" + k + ", " + what + ")", () -> desk.block(k, what), () -> plain.block(k, what));
    }

    private void code(int n) {
        int k = random.nextInt(4) == 0 ? near(plain.blocks()) : random.nextInt(1 + plain.blocks());
        int which = random.nextInt(5) - 1;
        int symbol = random.nextInt(3) == 0 ? near(which == 0 ? 285 : which == 1 ? 29 : 18) : random.nextInt(286);
        same(n, "code(" + k + ", " + which + ", " + symbol + ")", () -> desk.code(k, which, symbol),
            () -> plain.code(k, which, symbol));
    }

    private void fault(int n) {
        int what = random.nextInt(4) - 1;
        same(n, "fault(" + what + ")", () -> desk.fault(what), () -> plain.fault(what));
    }

    private void output(int n) {
        int i = random.nextInt(3) == 0 ? near(plain.about(1)) : random.nextInt(1 + plain.about(1));
        same(n, "output(" + i + ")", () -> desk.output(i), () -> plain.output(i));
    }

    private void weigh(int n) {
        int symbol = random.nextInt(4) == 0 ? near(63) : random.nextInt(64);
        int kind = random.nextInt(5);
        int weight = kind == 0 ? near(1000000) : kind == 1 ? 0 : kind == 2 ? 1 : random.nextInt(kind == 3 ? 20 : 900);
        same(n, "weigh(" + symbol + ", " + weight + ")", () -> {
            desk.weigh(symbol, weight);
            return 0;
        }, () -> {
            plain.weigh(symbol, weight);
            return 0;
        });
    }

    private void measure(int n) {
        int limit = random.nextInt(3) == 0 ? near(15) : 1 + random.nextInt(15);
        same(n, "measure(" + limit + ")", () -> desk.measure(limit), () -> plain.measure(limit));
    }

    private void length(int n) {
        int symbol = random.nextInt(4) == 0 ? near(63) : random.nextInt(64);
        same(n, "length(" + symbol + ")", () -> desk.length(symbol), () -> plain.length(symbol));
    }

    private void about(int n) {
        int what = random.nextInt(4) - 1;
        same(n, "about(" + what + ")", () -> desk.about(what), () -> plain.about(what));
    }

    /** At 0 or at the bound, beside them, or as far off as can be. */
    private int near(int bound) {
        int[] values = {-1, 0, 1, bound - 1, bound, bound, bound + 1, Integer.MIN_VALUE, Integer.MAX_VALUE};
        return values[random.nextInt(values.length)];
    }

    private static void same(int n, String call, Supplier<Object> got, Supplier<Object> want) {
        due.same("call " + n + ", " + call, answer(got), answer(want));
    }

    private static String answer(Supplier<Object> call) {
        try {
            return String.valueOf(call.get());
        } catch (RuntimeException e) {
            return e.getClass().getSimpleName();
        }
    }
}
