import java.util.Random;

/** Promises 17 to 19: weigh, measure, length. */
public final class ScaleTest {
    private static final int NONE = PackDesk.NONE;
    private static final Due due = new Due();

    public static void main(String[] args) {
        promise17Wrong();
        promise17Again();
        promise18Few();
        promise18Limits();
        promise18Thrown();
        promise18Equals();
        promise18Large();
        promise18ByChance();
        promise19Wrong();
        due.end();
    }

    private static void promise17Wrong() {
        PackDesk desk = new PackDesk();
        for (int symbol : new int[] {64, -1, Integer.MAX_VALUE, Integer.MIN_VALUE}) {
            due.thrown("weigh(" + symbol + ", 1)", () -> desk.weigh(symbol, 1), IndexOutOfBoundsException.class);
            // Both are wrong: the symbol is looked at first.
            due.thrown("weigh(" + symbol + ", -1)", () -> desk.weigh(symbol, -1), IndexOutOfBoundsException.class);
        }
        for (int weight : new int[] {-1, 1000001, Integer.MAX_VALUE, Integer.MIN_VALUE}) {
            due.thrown("weigh(0, " + weight + ")", () -> desk.weigh(0, weight), IllegalArgumentException.class);
        }
        due.same("measure(15)", desk.measure(15), 0);
        due.thrown("weigh(63, 1000000)", () -> desk.weigh(63, 1000000), null);
        due.thrown("weigh(0, 0)", () -> desk.weigh(0, 0), null);
        due.same("measure(1)", desk.measure(1), 1000000);
        due.thrown("weigh(63, 1000001)", () -> desk.weigh(63, 1000001), IllegalArgumentException.class);
        due.same("measure(1)", desk.measure(1), 1000000);
    }

    private static void promise17Again() {
        PackDesk desk = new PackDesk();
        weigh(desk, 5, 9, 12);
        desk.weigh(1, 100);
        due.same("measure(15)", desk.measure(15), 100 + 2 * 17);
        due.same("length(1)", desk.length(1), 1);
        // The lengths are those of the latest measure().
        desk.weigh(1, 0);
        due.same("length(1)", desk.length(1), 1);
        due.same("measure(15)", desk.measure(15), 17);
        due.same("length(1)", desk.length(1), 0);
        due.same("length(0)", desk.length(0), 1);
    }

    private static void promise18Few() {
        PackDesk desk = new PackDesk();
        for (int limit = 1; limit <= 15; limit++) {
            due.same("measure(" + limit + ") of none", desk.measure(limit), 0);
        }
        desk.weigh(40, 7);
        for (int limit = 1; limit <= 15; limit++) {
            due.same("measure(" + limit + ") of one", desk.measure(limit), 7);
            due.same("length(40)", desk.length(40), 1);
            due.same("length(39)", desk.length(39), 0);
        }
        desk.weigh(2, 1);
        for (int limit = 1; limit <= 15; limit++) {
            due.same("measure(" + limit + ") of two", desk.measure(limit), 8);
            due.same("length(2)", desk.length(2), 1);
        }
    }

    /** As many symbols as codes: all lengths are the limit's. */
    private static void promise18Limits() {
        for (int limit = 1; limit <= 6; limit++) {
            PackDesk desk = new PackDesk();
            int count = 1 << limit;
            int sum = 0;
            for (int i = 0; i < count; i++) {
                desk.weigh(63 - i, 1 << i % 20);
                sum += 1 << i % 20;
            }
            due.same("measure(" + limit + ")", desk.measure(limit), sum * limit);
            for (int i = 0; i < count; i++) {
                due.same("length", desk.length(63 - i), limit);
            }
        }
    }

    private static void promise18Thrown() {
        PackDesk desk = new PackDesk();
        weigh(desk, 1, 1, 1, 1, 1);
        for (int limit : new int[] {0, 16, -1, Integer.MAX_VALUE, Integer.MIN_VALUE, 32, 33}) {
            due.thrown("measure(" + limit + ")", () -> desk.measure(limit), IllegalArgumentException.class);
        }
        due.same("length(0)", desk.length(0), 0);
        due.same("measure(3)", desk.measure(3), 12);
        int[] before = lengths(desk);
        due.thrown("measure(2)", () -> desk.measure(2), IllegalStateException.class);
        due.thrown("measure(1)", () -> desk.measure(1), IllegalStateException.class);
        due.thrown("measure(0)", () -> desk.measure(0), IllegalArgumentException.class);
        due.same("lengths", lengths(desk), before);
        desk.weigh(4, 0);
        due.same("measure(2)", desk.measure(2), 8);
        PackDesk full = new PackDesk();
        for (int i = 0; i < 64; i++) {
            full.weigh(i, 1);
        }
        due.thrown("measure(5)", () -> full.measure(5), IllegalStateException.class);
        due.same("measure(6)", full.measure(6), 64 * 6);
    }

    /** Of equal ones those of S go first, and of these the lower number. */
    private static void promise18Equals() {
        PackDesk desk = new PackDesk();
        weigh(desk, 1, 1, 2, 2);
        due.same("measure(15)", desk.measure(15), 12);
        due.same("lengths", first(desk, 4), new int[] {2, 2, 2, 2});
        weigh(desk, 3, 3, 3);
        desk.weigh(3, 0);
        due.same("measure(15)", desk.measure(15), 15);
        due.same("lengths", first(desk, 3), new int[] {2, 2, 1});
        weigh(desk, 2, 1, 1, 1, 1);
        due.same("measure(15)", desk.measure(15), 14);
        due.same("lengths", first(desk, 5), Plain.lengths(new int[] {2, 1, 1, 1, 1}, 15));
    }

    /** Sums of many pairs pass what an int can hold. */
    private static void promise18Large() {
        int[] weights = new int[64];
        for (int i = 0; i < 64; i++) {
            weights[i] = 1000000;
        }
        compare(weights);
        for (int i = 0; i < 64; i++) {
            weights[i] = i < 3 ? 1 : 1000000 - i % 2;
        }
        compare(weights);
        // Fibonacci's numbers: the longest codes that there are.
        int[] steep = new int[64];
        steep[0] = 1;
        steep[1] = 1;
        for (int i = 2; i < 30; i++) {
            steep[i] = steep[i - 1] + steep[i - 2];
        }
        compare(steep);
    }

    private static void promise18ByChance() {
        Random random = new Random(18);
        for (int round = 0; round < 300; round++) {
            int most = new int[] {1, 2, 4, 20, 1000, 1000000}[random.nextInt(6)];
            int comes = 1 + random.nextInt(4);
            int[] weights = new int[64];
            for (int i = 0; i < 64; i++) {
                weights[i] = random.nextInt(4) < comes ? 1 + random.nextInt(most) : 0;
            }
            compare(weights);
        }
    }

    private static void promise19Wrong() {
        PackDesk desk = new PackDesk();
        for (int symbol : new int[] {64, -1, Integer.MAX_VALUE, Integer.MIN_VALUE}) {
            due.same("length(" + symbol + ")", desk.length(symbol), NONE);
        }
        desk.weigh(63, 3);
        due.same("length(63) ahead of any measure()", desk.length(63), 0);
        desk.measure(1);
        due.same("length(63)", desk.length(63), 1);
        // Packing works with lengths of its own.
        Desks.put(desk, Desks.ofText(Desks.TEXT));
        desk.pack();
        due.same("length(63)", desk.length(63), 1);
        due.same("length(0)", desk.length(0), 0);
    }

    private static void compare(int[] weights) {
        PackDesk desk = new PackDesk();
        int come = 0;
        for (int i = 0; i < 64; i++) {
            desk.weigh(i, weights[i]);
            come += weights[i] > 0 ? 1 : 0;
        }
        for (int limit = 1; limit <= 15; limit++) {
            int asked = limit;
            if (come > 1 << limit) {
                due.thrown("measure(" + limit + ")", () -> desk.measure(asked), IllegalStateException.class);
            } else {
                int[] want = Plain.lengths(weights, limit);
                int sum = 0;
                for (int i = 0; i < 64; i++) {
                    sum += weights[i] * want[i];
                }
                due.same("measure(" + limit + ")", desk.measure(limit), sum);
                due.same("lengths", lengths(desk), want);
            }
        }
    }

    private static void weigh(PackDesk desk, int... weights) {
        for (int i = 0; i < weights.length; i++) {
            desk.weigh(i, weights[i]);
        }
    }

    private static int[] lengths(PackDesk desk) {
        return first(desk, 64);
    }

    private static int[] first(PackDesk desk, int count) {
        int[] lengths = new int[count];
        for (int i = 0; i < count; i++) {
            lengths[i] = desk.length(i);
        }
        return lengths;
    }
}
