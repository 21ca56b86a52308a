import java.util.Arrays;
import java.util.Random;

/** DYNAMIC (promise 13): which lengths are told, and the row's repetitions at each of their bounds. */
public final class HeadTest {
    private static final int NONE = PackDesk.NONE;
    /** By how many are like one another: the steps that tell so many of length 4. */
    private static final String[] BY_GROUP = {"", "4", "4 4", "4 4 4", "4 16:3", "4 16:4", "4 16:5", "4 16:6",
        "4 16:6 4", "4 16:6 4 4", "4 16:6 16:3", "4 16:6 16:4", "4 16:6 16:5", "4 16:6 16:6", "4 16:6 16:6 4",
        "4 16:6 16:6 4 4"};
    private static final Due due = new Due();

    public static void main(String[] args) {
        lastLiterals();
        lastDistances();
        noDistance();
        oneDistance();
        noughtsAtTheLeft();
        noughtsBetween();
        noughtsUpTo256();
        likeOnes();
        likeOnesAtTheLeft();
        numbersAlone();
        everyStepByChance();
        codesOfEachBlock();
        codesBounds();
        due.end();
    }

    /** "as many literals' as go up to the last above 0, at least 257" */
    private static void lastLiterals() {
        headIs(few(400, 20, 0, 1), 257, 1);
        int[][] lengths = {{3, 258}, {4, 259}, {10, 265}, {11, 266}, {12, 266}, {13, 267}, {18, 269}, {19, 270},
            {114, 280}, {115, 281}, {130, 281}, {131, 282}, {226, 284}, {227, 285}, {257, 285}, {258, 286}};
        for (int[] row : lengths) {
            int[] bytes = again(few(400, 20, 0, 1), 400, row[0]);
            PackDesk desk = packed(bytes);
            Head head = new Head(desk);
            due.same("literals that are told, " + row[0], head.literals, row[1]);
            due.same("the last is above 0", head.row[row[1] - 1] > 0, true);
            due.same("code of the last", desk.code(0, 0, row[1] - 1), head.row[row[1] - 1]);
            if (row[1] < 286) {
                due.same("code behind the last", desk.code(0, 0, row[1]), 0);
            }
            // 256 has one, and comes once.
            due.same("code of 256", desk.code(0, 0, 256) > 0, true);
        }
    }

    /** "then as many distances', at least 1" */
    private static void lastDistances() {
        int[][] distances = {{1, 1}, {2, 2}, {3, 3}, {4, 4}, {5, 5}, {6, 5}, {7, 6}, {8, 6}, {9, 7}, {12, 7}, {13, 8},
            {64, 12}, {65, 13}, {192, 15}, {193, 16}, {256, 16}, {257, 17}, {384, 17}, {385, 18}, {400, 18}};
        for (int[] row : distances) {
            headIs(again(few(400, 20, 0, 2), row[0], 3), 258, row[1]);
        }
        // The farthest: between both rows a run, whose matches are at distance 1.
        for (int distance : new int[] {3072, 3073, 4096}) {
            int[] bytes = Arrays.copyOf(few(400, 20, 0, 3), distance + 10);
            Arrays.fill(bytes, 400, distance, 99);
            System.arraycopy(bytes, 0, bytes, distance, 10);
            PackDesk desk = packed(bytes);
            int last = distance < 3073 ? 22 : 23;
            due.same("distances that are told", new Head(desk).distances, last + 1);
            due.same("code of distance 1", desk.code(0, 1, 0), 1);
            due.same("code of the farthest", desk.code(0, 1, last), 1);
            due.same("code behind it", desk.code(0, 1, last + 1), 0);
        }
    }

    /** "without any one of length 1 for distance code 0" */
    private static void noDistance() {
        PackDesk desk = packed(few(400, 20, 0, 4));
        for (int symbol = 0; symbol < 30; symbol++) {
            due.same("code(0, 1, " + symbol + ")", desk.code(0, 1, symbol), symbol == 0 ? 1 : 0);
        }
        due.same("its distances", new Head(desk).distances, 1);
        due.same("the row's last", new Head(desk).row[257], 1);
    }

    /** Of one distance that comes: length 1, and none for code 0 but if it is that. */
    private static void oneDistance() {
        for (int distance : new int[] {1, 2, 3, 5, 100}) {
            PackDesk desk = packed(again(few(400, 20, 0, 5), distance, 4));
            int code = Plain.ofDistance(distance)[0];
            for (int symbol = 0; symbol < 30; symbol++) {
                due.same("code(0, 1, " + symbol + ")", desk.code(0, 1, symbol), symbol == code ? 1 : 0);
            }
        }
    }

    /** "from the left, a row of 3 .. 138 noughts, as long as can be, by 17 (up to 10) or 18" */
    private static void noughtsAtTheLeft() {
        for (int noughts : new int[] {0, 1, 2, 3, 4, 9, 10, 11, 12, 137, 138, 139, 140, 141, 142, 147, 148, 149, 150,
            230}) {
            Head head = new Head(packed(few(400, 20, noughts, 6)));
            due.same("steps of " + noughts + " noughts at the left", head.stepsBetween(0, noughts), byNoughts(noughts));
        }
    }

    private static void noughtsBetween() {
        for (int noughts : new int[] {0, 1, 2, 3, 4, 9, 10, 11, 12, 137, 138, 139, 140, 141, 142, 148, 149, 150, 220}) {
            int[] bytes = few(400, 20, 0, 7);
            for (int i = 0; i < bytes.length; i++) {
                bytes[i] += bytes[i] >= 5 ? noughts : 0;
            }
            Head head = new Head(packed(bytes));
            due.same("steps of " + noughts + " noughts between", head.stepsBetween(5, 5 + noughts), byNoughts(noughts));
        }
    }

    private static void noughtsUpTo256() {
        for (int noughts : new int[] {0, 1, 2, 3, 10, 11, 138, 139, 140, 141, 149, 230}) {
            Head head = new Head(packed(few(400, 20, 236 - noughts, 8)));
            due.same("steps of " + noughts + " noughts up to 256", head.stepsBetween(256 - noughts, 256),
                byNoughts(noughts));
        }
    }

    private static String byNoughts(int noughts) {
        if (noughts > 138) {
            return "18:138 " + byNoughts(noughts - 138);
        }
        String[] byThemselves = {"", "0", "0 0"};
        return noughts >= 11 ? "18:" + noughts : noughts >= 3 ? "17:" + noughts : byThemselves[noughts];
    }

    /**
     * "else, if there is one ahead and three or more follow from here that are like that: 3 .. 6 of them, as many as
     * can be, by 16; else the number by itself": 16 symbols that come as often, the first (with 256) of length 5, the
     * others of 4, these in two groups with a nought between.
     */
    private static void likeOnes() {
        int[] even = even(16, 12);
        for (int group = 1; group <= 15; group++) {
            int[] bytes = even.clone();
            for (int i = 0; i < bytes.length; i++) {
                bytes[i] += bytes[i] == 0 ? 0 : bytes[i] <= group ? 1 : 2;
            }
            Head head = new Head(packed(bytes));
            String want = "5 0 " + BY_GROUP[group] + (group < 15 ? " 0 " + BY_GROUP[15 - group] : "");
            due.same("steps of a group of " + group, head.stepsBetween(0, group < 15 ? 18 : 17), want);
        }
    }

    /** The first number has none ahead, the second has; here the last symbol comes once less and has length 5. */
    private static void likeOnesAtTheLeft() {
        int[] even = even(16, 12);
        int seldom = even[even.length - 1];
        for (int group = 1; group <= 15; group++) {
            int[] bytes = Arrays.copyOf(even, even.length - 1);
            for (int i = 0; i < bytes.length; i++) {
                bytes[i] = bytes[i] == seldom ? 15 : bytes[i] == 15 ? seldom : bytes[i];
                bytes[i] += bytes[i] >= group ? 1 : 0;
            }
            Head head = new Head(packed(bytes));
            String want = BY_GROUP[group] + " 0 " + BY_GROUP[15 - group];
            due.same("steps of a group of " + group, head.stepsBetween(0, 16), want.trim());
            due.same("the last symbol's", head.row[16], 5);
        }
    }

    /** Two noughts between any two values: each of the row is told by itself. */
    private static void numbersAlone() {
        int[] bytes = few(500, 86, 0, 11);
        for (int i = 0; i < bytes.length; i++) {
            bytes[i] *= 3;
        }
        Head head = new Head(packed(bytes));
        due.same("the row", head.row.length, 258);
        due.same("steps of a row of 258", head.steps.size(), 258);
        // The same with three between 252 and 255, and with one.
        for (int i = 0; i < bytes.length; i++) {
            bytes[i] -= bytes[i] < 255 ? bytes[i] == 0 ? 0 : 1 : 0;
        }
        head = new Head(packed(bytes));
        due.same("steps of noughts at both ends", head.stepsBetween(0, 3) + " .. " + head.stepsBetween(252, 255),
            head.row[0] + " 0 " + head.row[2] + " .. 17:3");
    }

    /** Every step of many heads, all of one desk, is the one that the rule asks for; each of its bounds is met. */
    private static void everyStepByChance() {
        int[] met = new int[5];
        PackDesk desk = new PackDesk();
        for (int seed = 0; seed < 3000; seed++) {
            Desks.replace(desk, byChance(new Random(seed)));
            desk.pack();
            if (desk.block(0, 0) != 2) {
                continue;
            }
            Head head = new Head(desk);
            int place = 0;
            for (int[] step : head.steps) {
                due.same("step at " + place + " of seed " + seed, step, dueStep(head.row, place));
                boolean across = step[0] == 16 && place < head.literals && place + step[1] > head.literals;
                met[0] += across ? 1 : 0;
                met[1] += step[0] == 16 && place == head.literals ? 1 : 0;
                place += step[1];
            }
            alphabetIsDue(desk, head);
            int[] free = Plain.lengths(head.comings(), 15);
            int longest = Arrays.stream(free).max().getAsInt();
            met[2] += longest == 7 ? 1 : 0;
            met[3] += longest == 8 ? 1 : 0;
            met[4] += longest > 8 ? 1 : 0;
        }
        due.same("rows in which 16 goes on from literals to distances", met[0] > 5, true);
        due.same("rows in which 16 begins with the distances", met[1] > 0, true);
        due.same("alphabets whose longest code is 7 by itself", met[2] > 5, true);
        due.same("alphabets whose longest code would be 8", met[3] > 5, true);
        due.same("alphabets whose longest code would be more", met[4] > 0, true);
    }

    /** {symbol, how many it tells} from a place of a row on, each clause of the rule by itself. */
    private static int[] dueStep(int[] row, int place) {
        int noughts = 0;
        int like = 0;
        for (int i = place; i < row.length && row[i] == 0; i++) {
            noughts++;
        }
        for (int i = place; place > 0 && i < row.length && row[i] == row[place - 1]; i++) {
            like++;
        }
        if (noughts >= 3) {
            return noughts <= 10 ? new int[] {17, noughts} : new int[] {18, Math.min(138, noughts)};
        }
        return like >= 3 ? new int[] {16, Math.min(6, like)} : new int[] {row[place], 1};
    }

    /** "LENGTHS of at most 7, by how often they come, told in RFC 1951's order up to the last above 0, at least 4" */
    private static void alphabetIsDue(PackDesk desk, Head head) {
        int[] lengths = Plain.lengths(head.comings(), 7);
        int[] got = new int[19];
        for (int symbol = 0; symbol < 19; symbol++) {
            got[symbol] = desk.code(0, 2, symbol);
        }
        due.same("lengths of the 19", got, lengths);
        due.same("lengths of the 19 in the output", head.alphabet, lengths);
        due.same("the last of the 19 is above 0", lengths[Plain.ORDER[head.told - 1]] > 0, true);
        due.same("at least 4", head.told >= 4, true);
        int whole = 0;
        for (int length : lengths) {
            due.same("at most 7", length <= 7, true);
            whole += length == 0 ? 0 : 128 >> length;
        }
        due.same("a whole code", whole, 128);
    }

    /** code: "NONE if there is no such block (or it is written otherwise)": a block of each way in one tape. */
    private static void codesOfEachBlock() {
        int[] bytes = Desks.noise(1203, 13);
        System.arraycopy(few(600, 20, 0, 9), 0, bytes, 600, 600);
        PackDesk desk = Desks.with(bytes);
        desk.pack();
        due.same("ways", new int[] {desk.blocks(), desk.block(0, 0), desk.block(1, 0), desk.block(2, 0)},
            new int[] {3, 0, 2, 1});
        int[] lasts = {285, 29, 18};
        for (int which = 0; which <= 2; which++) {
            for (int symbol = -1; symbol <= lasts[which] + 1; symbol++) {
                due.same("code of STORED", desk.code(0, which, symbol), NONE);
                due.same("code of FIXED", desk.code(2, which, symbol), NONE);
                due.same("code of none", desk.code(3, which, symbol), NONE);
                boolean is = symbol >= 0 && symbol <= lasts[which];
                due.same("code of DYNAMIC, " + symbol, desk.code(1, which, symbol) >= 0, is);
            }
        }
        // The same block written otherwise by the next pack().
        desk.cut(600);
        Desks.put(desk, 1, 2, 3);
        desk.pack();
        due.same("block(1, 0)", desk.block(1, 0), 1);
        due.same("code(1, 0, 256)", desk.code(1, 0, 256), NONE);
    }

    /** code: "0 without one", and its bounds "(0 .. 285, 0 .. 29, 0 .. 18)". */
    private static void codesBounds() {
        PackDesk desk = packed(few(400, 20, 100, 10));
        due.same("code(0, 0, 0)", desk.code(0, 0, 0), 0);
        due.same("code(0, 0, 99)", desk.code(0, 0, 99), 0);
        due.same("code(0, 0, 100) is one", desk.code(0, 0, 100) > 0, true);
        due.same("code(0, 0, 119) is one", desk.code(0, 0, 119) > 0, true);
        due.same("code(0, 0, 120)", desk.code(0, 0, 120), 0);
        due.same("code(0, 0, 255)", desk.code(0, 0, 255), 0);
        due.same("code(0, 0, 257)", desk.code(0, 0, 257), 0);
        due.same("code(0, 0, 285)", desk.code(0, 0, 285), 0);
        due.same("code(0, 0, 286)", desk.code(0, 0, 286), NONE);
        due.same("code(0, 1, 29)", desk.code(0, 1, 29), 0);
        due.same("code(0, 1, 30)", desk.code(0, 1, 30), NONE);
        due.same("code(0, 2, 15)", desk.code(0, 2, 15), 0);
        due.same("code(0, 2, 18) is one", desk.code(0, 2, 18) > 0, true);
        due.same("code(0, 2, 19)", desk.code(0, 2, 19), NONE);
        due.same("code(0, 3, 0)", desk.code(0, 3, 0), NONE);
        due.same("code(0, -1, 0)", desk.code(0, -1, 0), NONE);
        due.same("code(1, 0, 0)", desk.code(1, 0, 0), NONE);
        due.same("code(-1, 0, 0)", desk.code(-1, 0, 0), NONE);
    }

    private static void headIs(int[] bytes, int literals, int distances) {
        Head head = new Head(packed(bytes));
        due.same("literals that are told", head.literals, literals);
        due.same("distances that are told", head.distances, distances);
        due.same("the last literal's is above 0", head.row[literals - 1] > 0, true);
        due.same("the last distance's is above 0", head.row[literals + distances - 1] > 0, true);
    }

    /** Packed as one DYNAMIC block, and as the plain form packs it; another desk unpacks it. */
    private static PackDesk packed(int[] bytes) {
        PackDesk desk = Desks.with(bytes);
        PackTest.compare(due, desk, bytes);
        due.same("one block", desk.blocks(), 1);
        due.same("DYNAMIC", desk.block(0, 0), 2);
        PackDesk other = Desks.with(Desks.outputOf(desk));
        due.same("unpack()", Told.answer(other, PackDesk::unpack), "" + bytes.length);
        due.same("output", Desks.outputOf(other), bytes);
        return desk;
    }

    /** A row comes again behind a byte that is like no other, so that no match begins ahead of it. */
    private static int[] again(int[] bytes, int distance, int length) {
        int[] longer = Arrays.copyOf(bytes, bytes.length + 1 + length);
        longer[bytes.length] = 98;
        for (int i = bytes.length + 1; i < longer.length; i++) {
            longer[i] = longer[i - distance];
        }
        return longer;
    }

    /** Bytes of few values, each of which comes, in which no three come again: each byte is a part. */
    static int[] few(int size, int values, int low, long seed) {
        int[] bytes = shuffled(size, values, new Random(seed));
        for (int i = 0; i < size; i++) {
            bytes[i] += low;
        }
        return bytes;
    }

    /** The same with each value as often. */
    private static int[] even(int values, int times) {
        return shuffled(values * times, values, new Random(values));
    }

    /** Turn by turn all values, in an order by chance that lets no three come again; begun anew where none is left. */
    private static int[] shuffled(int size, int values, Random random) {
        int[] bytes = new int[size];
        boolean[] seen = new boolean[values * values * values];
        boolean[] used = new boolean[values];
        int at = 0;
        int tries = 0;
        while (at < size) {
            int value = random.nextInt(values);
            int three = at < 2 ? 0 : (bytes[at - 2] * values + bytes[at - 1]) * values + value;
            if (at % values == 0 && tries == 0) {
                Arrays.fill(used, false);
            }
            if (!used[value] && (at < 2 || !seen[three])) {
                used[value] = true;
                seen[three] |= at >= 2;
                bytes[at] = value;
                at++;
                tries = 0;
            } else if (++tries > 500) {
                Arrays.fill(seen, false);
                at = 0;
                tries = 0;
            }
        }
        return bytes;
    }

    /** Few or many values, even or steep, near or far from one another, with rows that come again or without. */
    private static int[] byChance(Random random) {
        int values = 2 + random.nextInt(200);
        int low = random.nextInt(257 - values);
        int steep = 1 + random.nextInt(6);
        int far = 1 + random.nextInt(3);
        int seldom = random.nextInt(3) == 0 ? 1 + random.nextInt(10) : 1000;
        int[] bytes = new int[100 + random.nextInt(900)];
        int back = 0;
        int rest = 0;
        for (int i = 0; i < bytes.length; i++) {
            int value = values;
            for (int j = 0; j < steep; j++) {
                value = Math.min(value, random.nextInt(values));
            }
            bytes[i] = rest > 0 ? bytes[i - back] : low + value * far & 255;
            rest--;
            if (i > 5 && rest <= 0 && random.nextInt(seldom) == 0) {
                back = 1 + random.nextInt(i);
                rest = 3 + random.nextInt(8);
            }
        }
        return bytes;
    }
}
