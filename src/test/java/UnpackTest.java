import java.util.Arrays;
import java.util.Random;
import java.util.zip.Deflater;

/** Promises 14 and 15: unpack, and each fault with its place. Tapes are written as texts of bits, in their order. */
public final class UnpackTest {
    private static final int NONE = PackDesk.NONE;
    private static final String LAST = Bits.LAST;
    private static final String MORE = Bits.MORE;
    private static final String STORED = Bits.STORED;
    private static final String FIXED = Bits.FIXED;
    private static final String DYNAMIC = Bits.DYNAMIC;
    private static final String[] LITERAL = Bits.LITERAL;
    private static final String[] DISTANCE = Bits.DISTANCE;
    private static final Due due = new Due();

    public static void main(String[] args) {
        goodTapes();
        longCodes();
        behindTheLast();
        outputStays();
        fault1();
        fault2();
        fault3();
        fault4();
        fault5Alphabet();
        fault5Codes();
        fault6();
        fault7();
        fault8();
        fault9();
        promise15Wrong();
        othersWork();
        due.end();
    }

    private static void goodTapes() {
        good(LAST + FIXED + LITERAL[256]);
        good(LAST + FIXED + LITERAL['a'] + LITERAL[255] + LITERAL[0] + LITERAL[256], 'a', 255, 0);
        // STORED of no bytes, then of two, with anything in the bits up to the byte's end.
        good(MORE + STORED + "11111" + Plain.number(0, 16) + Plain.number(0xffff, 16)
            + LAST + STORED + "10101" + Plain.number(2, 16) + Plain.number(0xfffd, 16) + Plain.number(200, 8)
            + Plain.number(7, 8), 200, 7);
        // STORED behind bits that end with the byte: 3 + 8 + 7 + 3 + 8 + 8 + 8 + 8 + 9 + 7 + 3 = 72
        good(MORE + FIXED + LITERAL[1] + LITERAL[256] + MORE + FIXED + LITERAL[1] + LITERAL[2] + LITERAL[3]
            + LITERAL[4] + LITERAL[200] + LITERAL[256] + LAST + STORED + Plain.number(1, 16)
            + Plain.number(0xfffe, 16) + Plain.number(9, 8), 1, 1, 2, 3, 4, 200, 9);
        // A match may reach on into itself; 258 may be told by 284 too.
        int[] run = new int[259];
        Arrays.fill(run, 'z');
        good(LAST + FIXED + LITERAL['z'] + LITERAL[285] + DISTANCE[0] + LITERAL[256], run);
        good(LAST + FIXED + LITERAL['z'] + LITERAL[284] + "11111" + DISTANCE[0] + LITERAL[256], run);
        good(LAST + FIXED + LITERAL[1] + LITERAL[2] + LITERAL[258] + DISTANCE[1] + LITERAL[256], 1, 2, 1, 2, 1, 2);
        // DYNAMIC with no distance code, with one of length 1, and with one that is not code 0.
        good(LAST + Bits.dynamic(Bits.codes(257, 256, 1, 7, 1), new int[1]) + "01", 7);
        good(LAST + Bits.dynamic(Bits.codes(258, 256, 2, 7, 1, 257, 2), new int[] {1}) + "0" + "11" + "0" + "10",
            7, 7, 7, 7);
        good(LAST + Bits.dynamic(Bits.codes(258, 256, 2, 7, 1, 257, 2), new int[] {0, 1}) + "00" + "11" + "0" + "10",
            7, 7, 7, 7, 7);
        // As many codes as may be: 286 and 30.
        int[] most = Bits.codes(286, 256, 1, 285, 2, 0, 2);
        good(LAST + Bits.dynamic(most, Bits.codes(30, 0, 1, 29, 1)) + "10" + "11" + "0" + "0",
            new int[259]);
    }

    /** Codes of every length up to 15, the last two of 15: of literals and of distances. */
    private static void longCodes() {
        int[] literals = new int[258];
        int[] distances = new int[16];
        for (int i = 0; i < 15; i++) {
            literals[100 + i] = i + 1;
            distances[i] = i + 1;
        }
        literals[114] = 0;
        literals[256] = 15;
        literals[257] = 15;
        distances[15] = 15;
        String end = "111111111111110";
        String three = "111111111111111";
        String head = LAST + Bits.dynamic(literals, distances);
        good(head + "0" + "11111111111110" + end, 100, 113);
        good(head + "0" + three + "0" + end, 100, 100, 100, 100);
        // Distance 193 is told by code 15 and noughts, 129 by code 14.
        bad(head + "0" + three + three + "000000", 8, (head.length() + 1 + 15 + 15 + 6 + 7) / 8);
        literals[256] = 14;
        String over = LAST + Bits.dynamic(literals, distances);
        bad(over + "0".repeat(60), 5, (over.length() + 7) / 8);
        literals[256] = 15;
        distances[15] = 0;
        String under = LAST + Bits.dynamic(literals, distances);
        bad(under + "0".repeat(60), 5, (under.length() + 7) / 8);
    }

    private static void behindTheLast() {
        String bits = LAST + FIXED + LITERAL[5] + LITERAL[256];
        good(bits + "111111", 5);
        good(bits + "010101" + "1111111100000000", 5);
        PackDesk desk = Desks.with(Plain.bytesOf(LAST + FIXED + LITERAL[256] + "111111" + "11111111"));
        due.same("unpack()", desk.unpack(), 0);
        due.same("about(0)", desk.about(0), 3);
    }

    private static void outputStays() {
        PackDesk desk = Desks.with(1, 2, 3);
        desk.pack();
        desk.take();
        desk.unpack();
        Desks.replace(desk, Plain.bytesOf(LAST + FIXED + LITERAL[9] + LITERAL[8] + LITERAL[7] + LITERAL[6]));
        int crc = desk.crc();
        due.thrown("unpack()", desk::unpack, IllegalArgumentException.class);
        due.same("fault(0)", desk.fault(0), 1);
        due.same("fault(1)", desk.fault(1), 5);
        due.same("output", Desks.outputOf(desk), new int[] {1, 2, 3});
        due.same("crc()", desk.crc(), crc);
        // The fault is told until the next unpack(), whatever else is done.
        desk.pack();
        due.same("fault(0)", desk.fault(0), 1);
        desk.take();
        due.same("unpack()", desk.unpack(), 5);
        due.same("fault(0)", desk.fault(0), 0);
        due.same("fault(1)", desk.fault(1), NONE);
    }

    private static void fault1() {
        bad("", 1, 0);
        bad("00000000", 1, 1);
        bad(LAST + FIXED, 1, 1);
        bad(LAST + STORED + "00000" + Plain.number(1, 8), 1, 2);
        bad(LAST + STORED + "00000" + Plain.number(1, 16) + Plain.number(0xfe, 8), 1, 4);
        bad(LAST + STORED + "00000" + Plain.number(1, 16) + Plain.number(0xfffe, 16), 1, 5);
        bad(LAST + STORED + "00000" + Plain.number(9, 16) + Plain.number(0xfff6, 16) + Plain.number(9, 16), 1, 7);
        // More told than a tape can ever have: the bytes end first.
        bad(LAST + STORED + "00000" + Plain.number(60000, 16) + Plain.number(5535, 16) + Plain.number(9, 16), 1, 7);
        bad(LAST + DYNAMIC + "11111", 1, 1);
        // A block that is not the last, and nothing behind it.
        bad(MORE + STORED + "00000" + Plain.number(0, 16) + Plain.number(0xffff, 16), 1, 5);
        PackDesk desk = new PackDesk();
        Desks.put(desk, Desks.ofText(Desks.TEXT));
        desk.pack();
        due.same("way", desk.block(0, 0), 2);
        desk.take();
        for (int n = desk.about(0) - 1; n >= 0; n--) {
            desk.cut(n);
            due.thrown("unpack()", desk::unpack, IllegalArgumentException.class);
            due.same("fault(0)", desk.fault(0), 1);
            due.same("fault(1)", desk.fault(1), n);
        }
    }

    private static void fault2() {
        bad(LAST + "11", 2, 1);
        bad(MORE + "11", 2, 1);
        bad(MORE + "11" + "00000" + "11111111", 2, 1);
        // 3 + 7 + 3 + 7 + 3: the third header stands in the third byte.
        bad(MORE + FIXED + LITERAL[256] + MORE + FIXED + LITERAL[256] + LAST + "11" + "0", 2, 3);
        // 3 + 8 + 9 + 9 + 9 + 7 + 3: the header's bits stand in the sixth byte; with 7 more in the sixth and seventh.
        String ahead = MORE + FIXED + LITERAL[1] + LITERAL[200].repeat(3) + LITERAL[256];
        bad(ahead + LAST + "11" + "1111111", 2, 6);
        bad(MORE + FIXED + LITERAL[256] + ahead + LAST + "11" + "0", 2, 8);
        bad(MORE + FIXED + LITERAL[1] + LITERAL[200] + LITERAL[200] + LITERAL[256] + "0" + "11", 2, 5);
    }

    private static void fault3() {
        bad(LAST + STORED + "00000" + Plain.number(2, 16) + Plain.number(0, 16), 3, 5);
        bad(LAST + STORED + "00000" + Plain.number(0, 16) + Plain.number(0, 16), 3, 5);
        bad(LAST + STORED + "00000" + Plain.number(0xffff, 16) + Plain.number(0xffff, 16), 3, 5);
        bad(LAST + STORED + "00000" + Plain.number(7, 16) + Plain.number(0xfff9, 16) + Plain.number(7, 16), 3, 5);
        bad(MORE + FIXED + LITERAL[256] + LAST + STORED + "000" + Plain.number(1, 16) + Plain.number(0xffff, 16), 3, 6);
        // They agree only if every bit is turned.
        for (int bit = 0; bit < 16; bit++) {
            bad(LAST + STORED + "00000" + Plain.number(0, 16) + Plain.number(0xffff ^ 1 << bit, 16), 3, 5);
        }
    }

    private static void fault4() {
        bad(LAST + DYNAMIC + Plain.number(30, 5) + Plain.number(0, 5) + Plain.number(0, 4) + "0000000", 4, 3);
        bad(LAST + DYNAMIC + Plain.number(31, 5) + Plain.number(31, 5) + Plain.number(15, 4), 4, 3);
        bad(LAST + DYNAMIC + Plain.number(0, 5) + Plain.number(30, 5) + Plain.number(0, 4), 4, 3);
        bad(LAST + DYNAMIC + Plain.number(29, 5) + Plain.number(31, 5) + Plain.number(0, 4), 4, 3);
        // All three numbers are taken first.
        bad(LAST + DYNAMIC + Plain.number(31, 5) + Plain.number(31, 5) + "000", 1, 2);
        // 286 and 30 are no fault: then it is the noughts of the 19.
        bad(LAST + DYNAMIC + Plain.number(29, 5) + Plain.number(29, 5) + Plain.number(0, 4) + "000000000000", 5, 4);
    }

    private static void fault5Alphabet() {
        String numbers = LAST + DYNAMIC + Plain.number(0, 5) + Plain.number(0, 5);
        // 17 bits and 12: told behind all of the 19's lengths that are told.
        bad(numbers + Plain.number(0, 4) + "000" + "000" + "000" + "000", 5, 4);
        bad(numbers + Plain.number(0, 4) + "000" + "000" + "100" + "000", 5, 4);
        bad(numbers + Plain.number(0, 4) + "100" + "100" + "100" + "000", 5, 4);
        bad(numbers + Plain.number(0, 4) + "100" + "010" + "000" + "000", 5, 4);
        bad(numbers + Plain.number(0, 4) + "100" + "100" + "0", 1, 3);
        bad(numbers + Plain.number(15, 4) + "111".repeat(19), 5, 10);
        bad(numbers + Plain.number(15, 4) + "100".repeat(19), 5, 10);
        bad(numbers + Plain.number(15, 4) + "100".repeat(18), 1, 9);
    }

    private static void fault5Codes() {
        String noDistance = "0000";
        // Literals: too few, too many, none for 256, 256 alone.
        for (int[] wrong : new int[][] {Bits.codes(257, 256, 2, 7, 1), Bits.codes(257, 256, 1, 7, 1, 8, 1),
            Bits.codes(257, 6, 1, 7, 1), Bits.codes(257, 256, 1), Bits.codes(257), Bits.codes(257, 256, 15, 7, 1)}) {
            String bits = LAST + Bits.dynamic(wrong, new int[1]);
            bad(bits + noDistance, 5, (bits.length() + 7) / 8);
        }
        // Distances: one of length 2, two of length 2, too many, one of length 15.
        int[] literals = Bits.codes(258, 256, 2, 7, 1, 257, 2);
        for (int[] wrong : new int[][] {{2}, {0, 2}, {2, 2}, {1, 1, 1}, {1, 2}, {15}, {2, 2, 2}}) {
            String bits = LAST + Bits.dynamic(literals, wrong);
            bad(bits + noDistance, 5, (bits.length() + 7) / 8);
        }
        good(LAST + Bits.dynamic(literals, new int[] {1, 2, 2}) + "0" + "10", 7);
    }

    private static void fault6() {
        String head = LAST + DYNAMIC + Bits.alphabet(257, 1);
        String[] words = Bits.WORD;
        // 16 at the first: told as soon as it is taken, ahead of its own bits.
        bad(head + words[16], 6, (head.length() + words[16].length() + 7) / 8);
        bad(head + words[16] + "00" + "1".repeat(50), 6, (head.length() + words[16].length() + 7) / 8);
        due.same("the code ends with a byte's bit", (head.length() + words[16].length()) % 8, 7);
        // The row has 258: beyond it by each of the three.
        String noughts = words[18] + "1111111" + words[18] + Plain.number(118 - 11, 7);
        String[] beyond = {words[17] + "000", words[18] + "0000000", words[1] + words[16] + "00"};
        for (String row : beyond) {
            String bits = head + noughts + row;
            bad(bits + "0".repeat(40), 6, (bits.length() + 7) / 8);
            bad(bits.substring(0, bits.length() / 8 * 8), 1, bits.length() / 8);
        }
        String two = head + words[18] + "1111111" + words[18] + Plain.number(117 - 11, 7);
        good(two + words[1] + words[1] + words[0] + "01", 255);
        // 16 repeats a nought too, and from literals on to distances.
        String last = head + words[18] + "1111111" + words[18] + Plain.number(114 - 11, 7) + words[2] + words[2]
            + words[2] + words[2] + words[16] + "01";
        bad(last + "0".repeat(20), 6, (last.length() + 7) / 8);
        String over = LAST + DYNAMIC + Bits.alphabet(257, 3) + words[18] + "1111111" + words[18]
            + Plain.number(115 - 11, 7) + words[2] + words[2] + words[2] + words[2] + words[16] + "00";
        String without = over.substring(0, over.length() - words[16].length() - 2);
        good(without + words[0] + words[1] + words[1] + "00" + "11", 253);
        // The three 2s that 16 tells are the distances': no whole code.
        bad(over + "0000", 5, (over.length() + 7) / 8);
    }

    private static void fault7() {
        // 3 + 8 bits; 286 and 287 have codes by which nothing is told.
        bad(LAST + FIXED + LITERAL[286], 7, 2);
        bad(LAST + FIXED + LITERAL[287], 7, 2);
        // 3 + 8 + 7 + 5
        bad(LAST + FIXED + LITERAL[1] + LITERAL[257] + DISTANCE[30], 7, 3);
        bad(LAST + FIXED + LITERAL[1] + LITERAL[257] + DISTANCE[31] + "1111", 7, 3);
        // One distance code: the other bit begins none, and no more is taken.
        int[] literals = Bits.codes(265, 256, 2, 7, 1, 264, 2);
        String one = LAST + Bits.dynamic(literals, new int[] {1}) + "0" + "11" + "1";
        bad(one, 7, (one.length() + 7) / 8);
        bad(one + "0".repeat(33), 7, (one.length() + 7) / 8);
        // None at all: behind the length's bits, where none is taken.
        int[] longer = Bits.codes(270, 256, 2, 7, 1, 269, 2);
        for (int pad = 0; pad < 8; pad++) {
            String none = MORE + FIXED + LITERAL[200].repeat(pad) + LITERAL[256]
                + LAST + Bits.dynamic(longer, new int[1]) + "0" + "11" + "01";
            bad(none + "1".repeat(16), 7, (none.length() + 7) / 8);
            bad(none.substring(0, none.length() - 1), none.length() % 8 == 1 ? 1 : 7, (none.length() - 1 + 7) / 8);
        }
        // The literals' length of 264 has no bits, and its distance code is missing.
        String noBits = LAST + Bits.dynamic(literals, new int[1]) + "11";
        bad(noBits + "1111", 7, (noBits.length() + 7) / 8);
    }

    private static void fault8() {
        bad(LAST + FIXED + LITERAL[257] + DISTANCE[0], 8, 2);
        bad(LAST + FIXED + LITERAL[1] + LITERAL[257] + DISTANCE[1], 8, 3);
        good(LAST + FIXED + LITERAL[1] + LITERAL[2] + LITERAL[257] + DISTANCE[1] + LITERAL[256], 1, 2, 1, 2, 1);
        // 5 and 6 share a code, told apart by a bit: the distance is known behind it.
        String five = LITERAL[1] + LITERAL[2] + LITERAL[3] + LITERAL[4] + LITERAL[5];
        good(LAST + FIXED + five + LITERAL[257] + DISTANCE[4] + "0" + LITERAL[256], 1, 2, 3, 4, 5, 1, 2, 3);
        bad(LAST + FIXED + five + LITERAL[257] + DISTANCE[4] + "1", 8, 7);
        bad(LAST + FIXED + LITERAL[1] + LITERAL[257] + DISTANCE[29] + "1".repeat(13), 8, 5);
        bad(LAST + FIXED + LITERAL[1] + LITERAL[257] + DISTANCE[29] + "1", 1, 3);
        // What stood in a block ahead may be reached.
        good(MORE + STORED + "00000" + Plain.number(1, 16) + Plain.number(0xfffe, 16) + Plain.number(3, 8)
            + LAST + FIXED + LITERAL[257] + DISTANCE[0] + LITERAL[256], 3, 3, 3, 3);
    }

    private static void fault9() {
        // 1 + 23 * 258 = 5935, and 65 more to 6000.
        String run = LITERAL[6] + (LITERAL[285] + DISTANCE[0]).repeat(23);
        int[] full = new int[6000];
        Arrays.fill(full, 6);
        String whole = run + LITERAL[276] + "011" + DISTANCE[0];
        good(LAST + FIXED + whole + LITERAL[256], full);
        String literal = LAST + FIXED + whole + LITERAL[1];
        bad(literal + LITERAL[256], 9, (literal.length() + 7) / 8);
        String match = LAST + FIXED + run + LITERAL[276] + "111" + DISTANCE[0];
        bad(match + LITERAL[256], 9, (match.length() + 7) / 8);
        String three = LAST + FIXED + whole + LITERAL[257] + DISTANCE[0];
        bad(three + LITERAL[256], 9, (three.length() + 7) / 8);
        // A distance beyond is met ahead of the bytes that would be too many.
        String far = MORE + FIXED + whole + LITERAL[257] + DISTANCE[25] + "0".repeat(11);
        bad(far, 8, (far.length() + 7) / 8);
        storedBeyond(whole);
    }

    /** A STORED block's bytes are taken one by one: the fault is met at the first that is too many. */
    private static void storedBeyond(String whole) {
        String ahead = MORE + FIXED + whole + LITERAL[256] + LAST + STORED;
        ahead += "0".repeat((8 - ahead.length() % 8) % 8);
        int bytes = ahead.length() / 8;
        int[] full = new int[6000];
        Arrays.fill(full, 6);
        good(ahead + Plain.number(0, 16) + Plain.number(0xffff, 16), full);
        bad(ahead + Plain.number(3, 16) + Plain.number(0xfffc, 16) + Plain.number(0, 24), 9, bytes + 5);
        bad(ahead + Plain.number(3, 16) + Plain.number(0xfffc, 16), 1, bytes + 4);
    }

    private static void promise15Wrong() {
        PackDesk desk = new PackDesk();
        due.same("fault(0) ahead of any", desk.fault(0), 0);
        due.same("fault(1) ahead of any", desk.fault(1), NONE);
        due.thrown("unpack()", desk::unpack, IllegalArgumentException.class);
        due.same("fault(0)", desk.fault(0), 1);
        due.same("fault(1)", desk.fault(1), 0);
        for (int what : new int[] {2, -1, 9, Integer.MAX_VALUE, Integer.MIN_VALUE}) {
            due.same("fault(" + what + ")", desk.fault(what), NONE);
        }
    }

    /** What another packer packs is unpacked. */
    private static void othersWork() {
        Random random = new Random(14);
        for (int round = 0; round < 60; round++) {
            int[] bytes = new int[random.nextInt(6001)];
            int values = 1 + random.nextInt(1 + random.nextInt(256));
            for (int i = 0; i < bytes.length; i++) {
                boolean again = i > 9 && random.nextInt(20) > 0;
                bytes[i] = again && round % 2 == 0 ? bytes[i - 9] : random.nextInt(values);
            }
            Deflater deflater = new Deflater(round % 10, true);
            deflater.setStrategy(round % 3 == 0 ? Deflater.DEFAULT_STRATEGY
                : round % 3 == 1 ? Deflater.FILTERED : Deflater.HUFFMAN_ONLY);
            deflater.setInput(Desks.asBytes(bytes));
            deflater.finish();
            byte[] packed = new byte[8000];
            int size = 0;
            while (!deflater.finished()) {
                size += deflater.deflate(packed, size, packed.length - size);
            }
            deflater.end();
            if (size <= 6000) {
                PackDesk desk = Desks.with(Desks.asInts(packed, size));
                due.same("unpack()", desk.unpack(), bytes.length);
                due.same("output", Desks.outputOf(desk), bytes);
            }
        }
    }

    private static void good(String bits, int... want) {
        PackDesk desk = Desks.with(Plain.bytesOf(bits));
        try {
            due.same("unpack() of " + bits, desk.unpack(), want.length);
            due.same("output", Desks.outputOf(desk), want);
        } catch (IllegalArgumentException e) {
            due.same("fault of " + bits, desk.fault(0), 0);
        }
        due.same("fault(0)", desk.fault(0), 0);
        due.same("fault(1)", desk.fault(1), NONE);
    }

    private static void bad(String bits, int fault, int place) {
        PackDesk desk = Desks.with(Plain.bytesOf(bits));
        due.thrown("unpack() of " + bits, desk::unpack, IllegalArgumentException.class);
        due.same("fault of " + bits, desk.fault(0), fault);
        due.same("place of " + bits, desk.fault(1), place);
        due.same("about(1)", desk.about(1), 0);
        Plain.Unpacked plain = Plain.unpack(Plain.bytesOf(bits));
        due.same("plain fault of " + bits, plain.fault, fault);
        due.same("plain place of " + bits, plain.place, place);
    }
}
