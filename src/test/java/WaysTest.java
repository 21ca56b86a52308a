import java.util.Arrays;
import java.util.Random;

/** The ways of a block (promises 8 and 12): what each takes at the bounds of its codes, and which is taken. */
public final class WaysTest {
    private static final int NONE = PackDesk.NONE;
    private static final int STORED = 0;
    private static final int FIXED = 1;
    private static final int DYNAMIC = 2;
    private static final Due due = new Due();

    public static void main(String[] args) {
        bytesByFixed();
        lengthsByFixed();
        distancesByFixed();
        noneAndOne();
        nearlyAsMany();
        allAsMany();
        storedAtEachBit();
        storedOrFixedAtEachBit();
        eachWayBehindEach();
        theMost();
        factsBounds();
        due.end();
    }

    /** FIXED: 8 bits up to 143, 9 from 144 on; 3 of the header and 7 of 256 besides. */
    private static void bytesByFixed() {
        for (int value = 0; value < 256; value++) {
            PackDesk desk = Desks.with(value);
            desk.pack();
            due.same("FIXED's bits of " + value, desk.block(0, 4), 3 + (value <= 143 ? 8 : 9) + 7);
            due.same("way of " + value, desk.block(0, 0), FIXED);
            due.same("bits of " + value, desk.block(0, 3), desk.block(0, 4));
        }
    }

    /** A byte and a match of each length at distance 1: from 115 on the length's code has 8 bits. */
    private static void lengthsByFixed() {
        int[] lasts = {10, 18, 34, 66, 130, 257, 258};
        for (int length = 3; length <= 258; length++) {
            int extra = 0;
            while (length > lasts[extra]) {
                extra++;
            }
            int bits = (length <= 114 ? 7 : 8) + (length == 258 ? 0 : extra);
            int[] run = new int[1 + length];
            PackDesk desk = Desks.with(run);
            PackTest.compare(due, desk, run);
            due.same("parts() of " + length, desk.parts(), 2);
            due.same("FIXED's bits of " + length, desk.block(0, 4), 3 + 8 + bits + 5 + 7);
        }
    }

    /** A match of 3 at each distance at which the number of its bits changes, and at those beside. */
    private static void distancesByFixed() {
        for (int last = 4, extra = 0; last <= 4096; last *= 2, extra++) {
            for (int distance : new int[] {last / 2 + 1, last * 3 / 4, last * 3 / 4 + 1, last - 1, last}) {
                distanceByFixed(distance, extra);
            }
        }
        distanceByFixed(1, 0);
        distanceByFixed(2, 0);
    }

    private static void distanceByFixed(int distance, int extra) {
        int[] bytes = Arrays.copyOf(Desks.noise(distance, distance), distance + 3);
        for (int i = 0; i < 3; i++) {
            bytes[distance + i] = bytes[i];
        }
        PackDesk desk = Desks.with(bytes);
        PackTest.compare(due, desk, bytes);
        due.same("parts() of " + distance, desk.parts(), distance + 1);
        int last = desk.blocks() - 1;
        int bits = 3 + 7 + 5 + extra + 7;
        for (int i = 600 * last; i < distance; i++) {
            bits += bytes[i] <= 143 ? 8 : 9;
        }
        due.same("FIXED's bits of " + distance, desk.block(last, 4), bits);
    }

    /** A block of none takes 10 bits by FIXED, and more by the others. */
    private static void noneAndOne() {
        PackDesk desk = new PackDesk();
        desk.pack();
        due.same("facts of none", facts(desk, 0), new int[] {FIXED, 0, 0, 10, 10, 90});
        due.same("header and 256", Desks.outputOf(desk), new int[] {3, 0});
    }

    /** "the fewest bits .., of several in this order": of each two ways one bit fewer, as many, one more. */
    private static void nearlyAsMany() {
        int[][] met = new int[3][3];
        for (int seed = 0; seed < 20000; seed++) {
            int[] bytes = byChance(new Random(seed));
            PackDesk desk = Desks.with(bytes);
            desk.pack();
            int stored = 40 + 8 * bytes.length;
            int fixed = desk.block(0, 4);
            int dynamic = desk.block(0, 5);
            int fewest = Math.min(stored, Math.min(fixed, dynamic));
            due.same("way", desk.block(0, 0), fewest == stored ? STORED : fewest == fixed ? FIXED : DYNAMIC);
            due.same("bits", desk.block(0, 3), fewest);
            count(met[0], fixed - stored, dynamic > Math.max(fixed, stored));
            count(met[1], dynamic - stored, fixed > Math.max(dynamic, stored));
            count(met[2], dynamic - fixed, stored > Math.max(dynamic, fixed));
        }
        for (int[] row : met) {
            due.same("one bit fewer, as many and one more are met: " + Arrays.toString(row),
                row[0] > 3 && row[1] > 3 && row[2] > 3, true);
        }
    }

    private static void count(int[] met, int more, boolean thirdIsBehind) {
        if (thirdIsBehind && more >= -1 && more <= 1) {
            met[1 + more]++;
        }
    }

    /** Tapes of which all three ways take as many bits. */
    private static void allAsMany() {
        for (int seed : new int[] {17686, 27382, 53589}) {
            int[] bytes = byChance(new Random(seed));
            PackDesk desk = Desks.with(bytes);
            PackTest.compare(due, desk, bytes);
            due.same("FIXED's bits", desk.block(0, 4), 40 + 8 * bytes.length);
            due.same("DYNAMIC's bits", desk.block(0, 5), 40 + 8 * bytes.length);
            due.same("way", desk.block(0, 0), STORED);
        }
    }

    private static int[] byChance(Random random) {
        int[] bytes = new int[20 + random.nextInt(120)];
        int values = 2 + random.nextInt(60);
        int low = random.nextInt(3) == 0 ? random.nextInt(257 - values) : 100 + random.nextInt(157 - values);
        int steep = 1 + random.nextInt(2);
        for (int i = 0; i < bytes.length; i++) {
            int value = values;
            for (int j = 0; j < steep; j++) {
                value = Math.min(value, random.nextInt(values));
            }
            bytes[i] = low + value;
        }
        return bytes;
    }

    /** "for STORED also those up to a byte's end": behind a block that ends at each bit of a byte. */
    private static void storedAtEachBit() {
        int[] noise = Desks.noise(200, 3);
        boolean[] met = new boolean[8];
        for (int seed = 0; seed < 100; seed++) {
            int[] bytes = joined(HeadTest.few(600, 15 + seed % 80, 0, seed), raised(noise, 100));
            PackDesk desk = Desks.with(bytes);
            desk.pack();
            int ahead = desk.block(0, 3);
            if (desk.blocks() == 2 && !met[ahead % 8]) {
                met[ahead % 8] = true;
                PackTest.compare(due, desk, bytes);
                int missing = (8 - (ahead + 3) % 8) % 8;
                due.same("way", desk.block(1, 0), STORED);
                due.same("bits", desk.block(1, 3), 3 + missing + 32 + 8 * 200);
                due.same("output's bytes", desk.about(1), (ahead + 3 + missing) / 8 + 4 + 200);
                due.same("its length's low byte", desk.output(desk.about(1) - 204), 200);
                due.same("its first byte", desk.output(desk.about(1) - 200), bytes[600]);
            }
        }
        due.same("each bit is met", Arrays.toString(met).contains("false"), false);
    }

    /** 25 bytes of 9 bits take as many by FIXED as by STORED, and one more for each bit up to the byte's end. */
    private static void storedOrFixedAtEachBit() {
        boolean[] met = new boolean[8];
        for (int seed = 0; seed < 100; seed++) {
            int[] first = HeadTest.few(600, 15 + seed % 80, 0, seed);
            PackDesk desk = Desks.with(first);
            desk.pack();
            int missing = (8 - (desk.block(0, 3) + 3) % 8) % 8;
            if (!met[missing]) {
                met[missing] = true;
                for (int more = -2; more <= 2; more++) {
                    int[] far = new int[25 + missing + more];
                    for (int i = 0; i < far.length; i++) {
                        far[i] = 144 + i * 37 % 112;
                    }
                    int[] bytes = joined(first, far);
                    desk = Desks.with(bytes);
                    PackTest.compare(due, desk, bytes);
                    due.same("FIXED's bits", desk.block(1, 4), 10 + 9 * far.length);
                    due.same("DYNAMIC takes more", desk.block(1, 5) > 10 + 9 * far.length, true);
                    int way = more < 0 ? FIXED : STORED;
                    due.same("way of " + far.length + " behind " + missing, desk.block(1, 0), way);
                }
            }
        }
        due.same("each number of bits is met", Arrays.toString(met).contains("false"), false);
    }

    /** "the last block is told so", each other not; and its way stands behind that bit. */
    private static void eachWayBehindEach() {
        int[][] firsts = {Desks.noise(600, 20), fixedPiece(), HeadTest.few(600, 20, 0, 20)};
        int[][] seconds = {raised(Desks.noise(100, 21), 30), {250, 251, 252}, HeadTest.few(300, 9, 200, 22)};
        for (int first = 0; first <= 2; first++) {
            PackDesk alone = Desks.with(firsts[first]);
            alone.pack();
            headersAre(alone, first);
            for (int second = 0; second <= 2; second++) {
                int[] bytes = joined(firsts[first], seconds[second]);
                PackDesk desk = Desks.with(bytes);
                PackTest.compare(due, desk, bytes);
                headersAre(desk, first, second);
                desk.take();
                due.same("unpack()", desk.unpack(), bytes.length);
                due.same("output", Desks.outputOf(desk), bytes);
            }
        }
    }

    private static void headersAre(PackDesk desk, int... ways) {
        due.same("blocks()", desk.blocks(), ways.length);
        int bit = 0;
        for (int k = 0; k < ways.length; k++) {
            due.same("way of " + k, desk.block(k, 0), ways[k]);
            due.same("whether " + k + " is the last", bitOf(desk, bit), k == ways.length - 1 ? 1 : 0);
            due.same("way of " + k + " in the output", bitOf(desk, bit + 1) + 2 * bitOf(desk, bit + 2), ways[k]);
            bit += desk.block(k, 3);
        }
        due.same("bytes of all bits", desk.about(1), (bit + 7) / 8);
        for (int i = bit; i < 8 * desk.about(1); i++) {
            due.same("bits behind the last block", bitOf(desk, i), 0);
        }
    }

    private static int bitOf(PackDesk desk, int bit) {
        return desk.output(bit / 8) >> bit % 8 & 1;
    }

    /** 600 parts, every fifth a match, all as seldom as FIXED's codes would have them. */
    private static int[] fixedPiece() {
        Random random = new Random(5);
        PackDesk desk = new PackDesk();
        int[] bytes = new int[3000];
        int size = 0;
        int parts = 0;
        while (parts < 600) {
            if (size > 30 && random.nextInt(5) == 0) {
                int length = 3 + random.nextInt(20);
                int from = random.nextInt(size - 25);
                for (int i = 0; i < length; i++, size++) {
                    bytes[size] = bytes[from + i];
                }
            } else {
                bytes[size] = random.nextInt(256);
                size++;
            }
            Desks.replace(desk, Arrays.copyOf(bytes, size));
            desk.pack();
            parts = desk.parts();
        }
        due.same("parts of the piece", parts, 600);
        return Arrays.copyOf(bytes, size);
    }

    /** pack: "It never has more than 6100." */
    private static void theMost() {
        for (int seed = 0; seed < 20; seed++) {
            int[] bytes = Desks.noise(6000, seed);
            // A block whose bits end within a byte, then STORED ones.
            System.arraycopy(HeadTest.few(600, 20, 0, seed), 0, bytes, seed % 10 * 600, 600);
            PackDesk desk = Desks.with(bytes);
            int size = desk.pack();
            due.same("at most 6100", size <= 6100, true);
            due.same("about(1)", desk.about(1), size);
            Desks.replace(desk, Desks.noise(6000, seed));
            due.same("pack() of noise", desk.pack(), 6050);
        }
    }

    /** block: "NONE if there is none such, or for another what." */
    private static void factsBounds() {
        PackDesk desk = Desks.with(Desks.noise(601, 30));
        desk.pack();
        for (int what = -1; what <= 7; what++) {
            boolean is = what >= 0 && what <= 5;
            due.same("block(-1, " + what + ")", desk.block(-1, what), NONE);
            due.same("block(0, " + what + ") is told", desk.block(0, what) != NONE, is);
            due.same("block(1, " + what + ") is told", desk.block(1, what) != NONE, is);
            due.same("block(2, " + what + ")", desk.block(2, what), NONE);
        }
    }

    private static int[] facts(PackDesk desk, int k) {
        int[] facts = new int[6];
        for (int what = 0; what < 6; what++) {
            facts[what] = desk.block(k, what);
        }
        return facts;
    }

    /** The same bytes with none below the lowest. */
    private static int[] raised(int[] bytes, int lowest) {
        int[] raised = bytes.clone();
        for (int i = 0; i < raised.length; i++) {
            raised[i] = raised[i] < lowest ? raised[i] + lowest : raised[i];
        }
        return raised;
    }

    private static int[] joined(int[] first, int[] second) {
        int[] both = Arrays.copyOf(first, first.length + second.length);
        System.arraycopy(second, 0, both, first.length, second.length);
        return both;
    }
}
