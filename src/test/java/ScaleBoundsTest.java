import java.util.Arrays;

/** THE SCALE and LENGTHS (promises 17 to 19): each bound, at it and on both sides of it. */
public final class ScaleBoundsTest {
    private static final int NONE = PackDesk.NONE;
    private static final int MIN = Integer.MIN_VALUE;
    private static final int MAX = Integer.MAX_VALUE;
    private static final Due due = new Due();
    /** One desk for many weights, so that nothing of a measure() is left for the next. */
    private static final PackDesk used = new PackDesk();

    public static void main(String[] args) {
        weights();
        weightsOfEverySymbol();
        ofNone();
        ofOne();
        ofTwo();
        limits();
        asManyAsCodes();
        equalOnes();
        equalToPairs();
        aLastOneAlone();
        steepOnesAtTheLimit();
        theLargestSum();
        theLengthsStay();
        lengthsBounds();
        due.end();
    }

    /** weigh: "the symbol is not 0 .. 63", "the weight is not 0 .. 1000000". */
    private static void weights() {
        for (int symbol : new int[] {MIN, -1, 0, 1, 62, 63, 64, 65, MAX}) {
            for (int weight : new int[] {MIN, -1, 0, 1, 2, 999999, 1000000, 1000001, MAX}) {
                PackDesk desk = new PackDesk();
                boolean isSymbol = symbol >= 0 && symbol <= 63;
                boolean isWeight = weight >= 0 && weight <= 1000000;
                String want = !isSymbol ? "IndexOutOfBoundsException" : !isWeight ? "IllegalArgumentException" : "0";
                due.same("weigh(" + symbol + ", " + weight + ")", Told.answer(desk, x -> {
                    x.weigh(symbol, weight);
                    return 0;
                }), want);
                due.same("measure(1)", desk.measure(1), want.equals("0") ? weight : 0);
                for (int i = 0; i < 64; i++) {
                    due.same("length", desk.length(i), want.equals("0") && weight > 0 && i == symbol ? 1 : 0);
                }
            }
        }
    }

    /** Each symbol has a weight of its own; "from now on" it is the latest. */
    private static void weightsOfEverySymbol() {
        for (int symbol = 0; symbol < 64; symbol++) {
            PackDesk desk = new PackDesk();
            for (int i = 0; i < 64; i++) {
                desk.weigh(i, 1000 + i);
            }
            for (int i = 0; i < 64; i++) {
                if (i != symbol) {
                    desk.weigh(i, 0);
                }
            }
            due.same("measure(1) of " + symbol, desk.measure(1), 1000 + symbol);
            desk.weigh(symbol, 1);
            due.same("measure(1) of " + symbol, desk.measure(1), 1);
            desk.weigh(symbol, 0);
            due.same("measure(1) of none", desk.measure(1), 0);
            due.same("length(" + symbol + ")", desk.length(symbol), 0);
        }
    }

    /** LENGTHS "of none: none" */
    private static void ofNone() {
        for (int limit = 1; limit <= 15; limit++) {
            lengthsAre(new int[0], limit);
        }
    }

    /** "of one: 1" */
    private static void ofOne() {
        for (int limit = 1; limit <= 15; limit++) {
            lengthsAre(new int[] {1}, limit, 1);
            lengthsAre(new int[] {1000000}, limit, 1);
            lengthsAre(new int[] {0, 0, 5}, limit, 0, 0, 1);
        }
    }

    private static void ofTwo() {
        for (int limit = 1; limit <= 15; limit++) {
            lengthsAre(new int[] {1, 1}, limit, 1, 1);
            lengthsAre(new int[] {1, 1000000}, limit, 1, 1);
            lengthsAre(new int[] {3, 0, 2}, limit, 1, 0, 1);
        }
    }

    /** measure: "the limit is not 1 .. 15". */
    private static void limits() {
        for (int limit : new int[] {MIN, -1, 0, 1, 2, 14, 15, 16, 17, 31, 32, 33, 47, 64, MAX}) {
            PackDesk desk = new PackDesk();
            desk.weigh(5, 8);
            boolean holds = limit >= 1 && limit <= 15;
            due.same("measure(" + limit + ")", Told.answer(desk, x -> x.measure(limit)),
                holds ? "8" : "IllegalArgumentException");
            due.same("length(5)", desk.length(5), holds ? 1 : 0);
        }
    }

    /** measure: "more symbols have weights than codes of that length are": 2, 4, 8, 16, 32, and never from 6 on. */
    private static void asManyAsCodes() {
        for (int limit = 1; limit <= 15; limit++) {
            int asked = limit;
            for (int symbols = 0; symbols <= 64; symbols++) {
                PackDesk desk = new PackDesk();
                for (int i = 0; i < symbols; i++) {
                    desk.weigh(63 - i, 1 + i % 3);
                }
                boolean tooMany = limit < 6 && symbols > Math.pow(2, limit);
                String answer = Told.answer(desk, x -> x.measure(asked));
                due.same("measure(" + limit + ") of " + symbols, answer.equals("IllegalStateException"), tooMany);
                if (!tooMany) {
                    wholeAndBounded(desk, symbols, limit);
                }
            }
        }
    }

    /** The lengths make a whole code (of two and more), none is above the limit, and those without weight have none. */
    private static void wholeAndBounded(PackDesk desk, int symbols, int limit) {
        int sum = 0;
        for (int i = 0; i < 64; i++) {
            int length = desk.length(63 - i);
            due.same("one if it has a weight", length > 0, i < symbols);
            due.same("at most the limit", length <= limit, true);
            sum += length == 0 ? 0 : 1 << 15 - length;
        }
        due.same("a whole code", sum, symbols == 0 ? 0 : symbols == 1 ? 1 << 14 : 1 << 15);
    }

    /** "then by number": of those that come as often the first have the longer codes. */
    private static void equalOnes() {
        lengthsAre(new int[] {7, 7, 7}, 15, 2, 2, 1);
        lengthsAre(new int[] {7, 7, 7}, 2, 2, 2, 1);
        lengthsAre(new int[] {7, 7, 7, 7, 7}, 15, 3, 3, 2, 2, 2);
        lengthsAre(new int[] {7, 7, 7, 7, 7}, 3, 3, 3, 2, 2, 2);
        for (int symbols = 2; symbols <= 64; symbols++) {
            int longer = 1;
            while (1 << longer < symbols) {
                longer++;
            }
            int shorter = (1 << longer) - symbols;
            int[] weights = new int[symbols];
            Arrays.fill(weights, 1000);
            int[] want = new int[symbols];
            for (int i = 0; i < symbols; i++) {
                want[i] = i < symbols - shorter ? longer : longer - 1;
            }
            for (int limit = longer; limit <= 15; limit++) {
                lengthsAre(weights, limit, want);
            }
        }
    }

    /** "of equal ones those of S first": by the pairs first, the lengths would be 3, 3, 2, 1. */
    private static void equalToPairs() {
        for (int limit = 2; limit <= 15; limit++) {
            lengthsAre(new int[] {1, 1, 2, 2}, limit, 2, 2, 2, 2);
            lengthsAre(new int[] {2, 2, 1, 1}, limit, 2, 2, 2, 2);
        }
        lengthsAre(new int[] {1, 1, 2, 3}, 15, 3, 3, 2, 1);
        lengthsAre(new int[] {1, 1, 2, 3}, 3, 3, 3, 2, 1);
        lengthsAre(new int[] {1, 1, 2, 3}, 2, 2, 2, 2, 2);
        lengthsAre(new int[] {1, 1, 2, 3, 5}, 4, 4, 4, 3, 2, 1);
        lengthsAre(new int[] {5, 3, 2, 1, 1}, 4, 1, 2, 3, 4, 4);
    }

    /** "(a last one alone goes)": three symbols have one pair, not two. */
    private static void aLastOneAlone() {
        lengthsAre(new int[] {1, 2, 4}, 2, 2, 2, 1);
        lengthsAre(new int[] {1, 2, 4}, 15, 2, 2, 1);
        // With the limit 3 the rows have 5, 7 and 7: the last goes each time.
        lengthsAre(new int[] {1, 1, 1, 1, 1}, 3, 3, 3, 2, 2, 2);
        lengthsAre(new int[] {1, 1, 1, 1, 16}, 3, 3, 3, 3, 3, 1);
        // Three behind 64 that had many small pairs.
        int[] ones = new int[64];
        int[] six = new int[64];
        Arrays.fill(ones, 1);
        Arrays.fill(six, 6);
        for (int limit = 6; limit <= 15; limit++) {
            lengthsAre(ones, limit, six);
            lengthsAre(new int[] {1, 2, 1000}, limit, 2, 2, 1);
        }
    }

    /** Fibonacci's numbers: n symbols would have codes up to n - 1; a limit of n - 1 changes nothing, one less does. */
    private static void steepOnesAtTheLimit() {
        for (int symbols = 3; symbols <= 30; symbols++) {
            int[] weights = new int[symbols];
            weights[0] = 1;
            weights[1] = 1;
            for (int i = 2; i < symbols; i++) {
                weights[i] = weights[i - 1] + weights[i - 2];
            }
            int[] free = new int[symbols];
            for (int i = 0; i < symbols; i++) {
                free[i] = symbols - Math.max(1, i);
            }
            for (int limit = 1; limit <= 15; limit++) {
                if (limit >= symbols - 1) {
                    lengthsAre(weights, limit, free);
                } else if (1 << limit >= symbols) {
                    int[] bounded = Plain.lengths(weights, limit);
                    due.same("the longest", Arrays.stream(bounded).max().getAsInt(), limit);
                    lengthsAre(weights, limit, bounded);
                }
            }
        }
    }

    private static void theLargestSum() {
        int[] weights = new int[64];
        Arrays.fill(weights, 1000000);
        int[] six = new int[64];
        Arrays.fill(six, 6);
        for (int limit = 6; limit <= 15; limit++) {
            lengthsAre(weights, limit, six);
        }
        PackDesk desk = new PackDesk();
        for (int i = 0; i < 64; i++) {
            desk.weigh(i, 1000000);
        }
        due.same("measure(6)", desk.measure(6), 384000000);
        due.same("measure(15)", desk.measure(15), 384000000);
    }

    /** measure: "(the lengths stay)"; length: "as of the latest measure()". */
    private static void theLengthsStay() {
        PackDesk desk = new PackDesk();
        for (int i = 0; i < 5; i++) {
            desk.weigh(i, 1);
        }
        due.same("measure(2) ahead of any", Told.answer(desk, x -> x.measure(2)), "IllegalStateException");
        due.same("lengths", first(desk, 6), new int[6]);
        due.same("measure(3)", desk.measure(3), 12);
        int[] lengths = {3, 3, 2, 2, 2, 0};
        due.same("lengths", first(desk, 6), lengths);
        due.same("measure(2)", Told.answer(desk, x -> x.measure(2)), "IllegalStateException");
        due.same("lengths", first(desk, 6), lengths);
        due.same("measure(16)", Told.answer(desk, x -> x.measure(16)), "IllegalArgumentException");
        due.same("lengths", first(desk, 6), lengths);
        // Weights alone change no length.
        desk.weigh(0, 0);
        desk.weigh(5, 100);
        due.same("lengths", first(desk, 6), lengths);
        desk.weigh(4, 0);
        due.same("measure(2)", desk.measure(2), 206);
        due.same("lengths", first(desk, 6), new int[] {0, 2, 2, 2, 0, 2});
    }

    /** length: "0 without one; NONE if the symbol is not 0 .. 63". */
    private static void lengthsBounds() {
        PackDesk desk = new PackDesk();
        for (int round = 0; round < 2; round++) {
            for (int symbol : new int[] {MIN, -1, 64, 65, MAX}) {
                due.same("length(" + symbol + ")", desk.length(symbol), NONE);
            }
            due.same("length(0)", desk.length(0), round);
            due.same("length(1)", desk.length(1), 0);
            due.same("length(62)", desk.length(62), 0);
            due.same("length(63)", desk.length(63), round);
            desk.weigh(0, 1);
            desk.weigh(63, 1);
            desk.measure(1);
        }
    }

    /** The weights of the first symbols, and the lengths that are due; the sum is that of both. */
    private static void lengthsAre(int[] weights, int limit, int... want) {
        PackDesk desk = new PackDesk();
        long sum = 0;
        for (int i = 0; i < weights.length; i++) {
            desk.weigh(i, weights[i]);
            sum += (long) weights[i] * want[i];
        }
        due.same("measure(" + limit + ") of " + Arrays.toString(weights), desk.measure(limit), sum);
        due.same("lengths of " + Arrays.toString(weights), first(desk, 64), Arrays.copyOf(want, 64));
        for (int i = 0; i < 64; i++) {
            used.weigh(i, i < weights.length ? weights[i] : 0);
        }
        due.same("measure(" + limit + ") again of " + Arrays.toString(weights), used.measure(limit), sum);
        due.same("lengths again of " + Arrays.toString(weights), first(used, 64), Arrays.copyOf(want, 64));
    }

    private static int[] first(PackDesk desk, int count) {
        int[] lengths = new int[count];
        for (int i = 0; i < count; i++) {
            lengths[i] = desk.length(i);
        }
        return lengths;
    }
}
