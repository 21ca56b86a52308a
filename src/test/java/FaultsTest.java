import java.util.Arrays;
import java.util.function.Consumer;

/**
 * UNPACKING (promises 14 and 15): each of the nine faults at its bound and beside it, with its place. Every fault is
 * met behind blocks that end at each bit of a byte, at a tape's end and with more behind; with one byte less, the bytes
 * end too early.
 */
public final class FaultsTest {
    private static final int NONE = PackDesk.NONE;
    private static final String[] LITERAL = Bits.LITERAL;
    private static final String[] DISTANCE = Bits.DISTANCE;
    private static final String FIXED = Bits.LAST + Bits.FIXED;
    private static final String DYNAMIC = Bits.LAST + Bits.DYNAMIC;
    private static final Due due = new Due();

    public static void main(String[] args) {
        fault1AtEveryByte();
        fault1OfAFullTape();
        fault2();
        fault3();
        fault4();
        fault5OfThe19();
        fault5OfLiterals();
        fault5OfDistances();
        fault6WithoutOneAhead();
        fault6BeyondTheRow();
        fault7OfFixed();
        fault7OfOneDistance();
        fault7OfNoDistance();
        fault8();
        fault9();
        fault9OfStored();
        theFirstThatIsMet();
        codesOfTheBlockAlone();
        everyLength();
        everyDistance();
        behindTheLastBlock();
        nothingElseHasChanged();
        promise15();
        due.end();
    }

    /** "1 the bytes end too early": a packed tape of each way, cut at each of its bytes. */
    private static void fault1AtEveryByte() {
        int[] mixed = Desks.noise(1000, 1);
        System.arraycopy(HeadTest.few(300, 20, 0, 1), 0, mixed, 600, 300);
        for (int[] bytes : new int[][] {{}, {7}, Desks.noise(50, 2), Desks.ofText(Desks.TEXT), new int[6000], mixed}) {
            PackDesk desk = Desks.with(bytes);
            int size = desk.pack();
            desk.take();
            int[] packed = Desks.outputOf(desk);
            for (int n = size - 1; n >= 0; n--) {
                due.same("cut", desk.cut(n), true);
                faultIs(desk, 1, n);
                due.same("output behind it", desk.about(1), size);
            }
            Desks.replace(desk, packed);
            due.same("unpack() of all bytes", desk.unpack(), bytes.length);
            due.same("fault(0) of all bytes", desk.fault(0), 0);
            due.same("fault(1) of all bytes", desk.fault(1), NONE);
        }
    }

    /** 4800 blocks of none, of 10 bits each, are 6000 bytes, none of them the last block. */
    private static void fault1OfAFullTape() {
        int[] bytes = Plain.bytesOf((Bits.MORE + Bits.FIXED + LITERAL[256]).repeat(4800));
        PackDesk desk = Desks.with(bytes);
        due.same("about(0)", desk.about(0), 6000);
        faultIs(desk, 1, 6000);
        // The last of them told so.
        due.same("the bit that tells the last block", desk.flip(5998, 6), true);
        due.same("unpack()", desk.unpack(), 0);
    }

    private static void fault2() {
        met(Bits.LAST + "11", 2);
        met(Bits.MORE + "11", 2);
    }

    /** "3 STORED lengths that don't agree": they do if each bit is turned. */
    private static void fault3() {
        for (int shift = 0; shift < 8; shift++) {
            String header = Bits.filled(Bits.ahead(shift) + Bits.LAST + Bits.STORED);
            for (int size : new int[] {0, 1, 255, 256, 5000, 0x7fff, 0x8000, 0xffff}) {
                for (int bit = 0; bit < 16; bit++) {
                    String wrong = Plain.number(size, 16) + Plain.number(0xffff - size ^ 1 << bit, 16);
                    metAsIs(header + wrong, 3);
                }
            }
            goodAsIs(header + Bits.sizes(0));
            goodAsIs(header + Bits.sizes(1) + Plain.number(9, 8), 9);
            metAsIs(header + Plain.number(0, 32), 3);
            metAsIs(header + "1".repeat(32), 3);
        }
        // The bits up to the byte's end may be anything.
        goodAsIs(Bits.LAST + Bits.STORED + "11111" + Bits.sizes(1) + Plain.number(9, 8), 9);
    }

    /** "4 more than 286 literal or 30 distance codes (told behind all three numbers that begin the block)" */
    private static void fault4() {
        for (int literals = 257; literals <= 288; literals++) {
            for (int distances = 1; distances <= 32; distances++) {
                metAsIs(begun(literals, distances, 4), literals > 286 || distances > 30 ? 4 : 5);
            }
        }
        for (int told : new int[] {4, 5, 18, 19}) {
            met(begun(286, 30, told), 5);
            met(begun(287, 30, told), 4);
            met(begun(288, 1, told), 4);
            met(begun(286, 31, told), 4);
            met(begun(257, 32, told), 4);
            met(begun(288, 32, told), 4);
        }
    }

    /** The three numbers, and where they hold the lengths of the 19: noughts alone, which are no code. */
    private static String begun(int literals, int distances, int told) {
        String numbers = Plain.number(literals - 257, 5) + Plain.number(distances - 1, 5) + Plain.number(told - 4, 4);
        return DYNAMIC + numbers + (literals > 286 || distances > 30 ? "" : "000".repeat(told));
    }

    /** "5 LENGTHS that don't make a whole code (of the 19 ..": one code alone is no exception. */
    private static void fault5OfThe19() {
        int[][] wrong = {{}, {1}, {1, 2}, {2, 2, 2}, {1, 1, 1}, {1, 1, 7}, {1, 2, 2, 2}, {7}, {7, 7},
            {1, 2, 3, 4, 5, 6, 7}, {1, 2, 3, 4, 5, 6, 7, 7, 7}, {1, 2, 3, 4, 5, 6, 6, 7}};
        for (int[] lengths : wrong) {
            for (int told = Math.max(4, lengths.length); told <= 19; told += 5) {
                met(the19(lengths, told), 5);
            }
        }
        met(DYNAMIC + Plain.number(0, 10) + Plain.number(15, 4) + Plain.number(7, 3).repeat(19), 5);
        // Whole ones go on to the first code of the row: a 16, which has none ahead.
        int[][] whole = {{1, 1}, {1, 2, 2}, {2, 2, 2, 2}, {1, 2, 3, 4, 5, 6, 7, 7}};
        for (int[] lengths : whole) {
            for (int shift = 0; shift < 8; shift++) {
                metAsIs(Bits.ahead(shift) + the19(lengths, 19) + wordOf16(lengths), 6);
            }
        }
    }

    private static String wordOf16(int[] lengths) {
        int[] alphabet = new int[19];
        for (int i = 0; i < lengths.length; i++) {
            alphabet[Plain.ORDER[i]] = lengths[i];
        }
        return Plain.codes(alphabet)[16];
    }

    /** The first lengths of RFC 1951's order, noughts behind them. */
    private static String the19(int[] lengths, int told) {
        StringBuilder bits = new StringBuilder(DYNAMIC + Plain.number(0, 10) + Plain.number(told - 4, 4));
        for (int i = 0; i < told; i++) {
            bits.append(Plain.number(i < lengths.length ? lengths[i] : 0, 3));
        }
        return bits.toString();
    }

    /** ".. of literals, or none for 256 .." */
    private static void fault5OfLiterals() {
        int[] noDistance = new int[1];
        int[] steps = new int[257];
        for (int i = 0; i < 15; i++) {
            steps[50 + i] = i + 1;
        }
        int[] wholeTo15 = steps.clone();
        wholeTo15[256] = 15;
        int[] tooLong = wholeTo15.clone();
        tooLong[200] = 15;
        int[] tooShort = wholeTo15.clone();
        tooShort[64] = 0;
        int[] without256 = steps.clone();
        without256[255] = 15;
        int[][] wrong = {Bits.codes(257), Bits.codes(257, 256, 1), Bits.codes(257, 256, 15),
            Bits.codes(257, 256, 1, 0, 2), Bits.codes(257, 256, 1, 0, 1, 1, 1), Bits.codes(257, 256, 1, 0, 1, 1, 15),
            Bits.codes(257, 254, 1, 255, 1), Bits.codes(258, 255, 1, 257, 1), Bits.codes(257, 0, 1),
            tooLong, tooShort, without256};
        for (int[] literals : wrong) {
            met(Bits.LAST + Bits.dynamic(literals, noDistance), 5);
            met(Bits.LAST + Bits.dynamic(literals, new int[] {1, 1}), 5);
            met(Bits.LAST + Bits.dynamic(literals, new int[] {2}), 5);
        }
        good(Bits.LAST + Bits.dynamic(Bits.codes(257, 256, 1, 0, 1), noDistance) + "0" + "1", 0);
        good(Bits.LAST + Bits.dynamic(wholeTo15, noDistance) + "11111111111110" + "1".repeat(15), 63);
        int[] all = new int[286];
        // 226 codes of 8 bits and 60 of 9: all that there can be.
        for (int i = 0; i < 286; i++) {
            all[i] = i < 226 ? 8 : 9;
        }
        String[] words = Plain.codes(all);
        good(Bits.LAST + Bits.dynamic(all, new int[] {1, 1}) + words[0] + words[255] + words[256], 0, 255);
    }

    /** ".. of distances, but for one code of length 1 or none)" */
    private static void fault5OfDistances() {
        int[] literals = Bits.codes(258, 256, 2, 7, 1, 257, 2);
        for (int length = 2; length <= 15; length++) {
            met(Bits.LAST + Bits.dynamic(literals, new int[] {length}), 5);
            met(Bits.LAST + Bits.dynamic(literals, new int[] {0, 0, length}), 5);
            met(Bits.LAST + Bits.dynamic(literals, new int[] {1, length}), 5);
            met(Bits.LAST + Bits.dynamic(literals, new int[] {1, 1, length}), 5);
        }
        met(Bits.LAST + Bits.dynamic(literals, new int[] {2, 2}), 5);
        met(Bits.LAST + Bits.dynamic(literals, new int[] {1, 1, 1}), 5);
        met(Bits.LAST + Bits.dynamic(literals, new int[] {2, 2, 2}), 5);
        met(Bits.LAST + Bits.dynamic(literals, new int[] {2, 2, 2, 2, 15}), 5);
        int[][] right = {{0}, {0, 0, 0}, {1}, {0, 0, 1}, {1, 1}, {1, 0, 1}, {1, 2, 2}, {2, 2, 2, 2}, new int[30],
            Bits.codes(30, 29, 1), Bits.codes(30, 0, 1, 29, 1)};
        for (int[] distances : right) {
            good(Bits.LAST + Bits.dynamic(literals, distances) + "0" + "10", 7);
        }
    }

    /** "6 a repetition without one ahead ..": told ahead of its own two bits. */
    private static void fault6WithoutOneAhead() {
        String head = DYNAMIC + Bits.alphabet(257, 1);
        met(head + Bits.WORD[16], 6);
        // One number ahead is enough, a nought too: the row is told to its end then.
        String rest = noughts(256 - 4) + Bits.WORD[1] + Bits.WORD[1];
        met(head + Bits.WORD[0] + Bits.WORD[16] + "00" + rest, 5);
        met(head + Bits.WORD[1] + Bits.WORD[16] + "00" + rest, 5);
        // By 17 and 18 noughts may come first; those are what 16 then repeats.
        String one = noughts(255) + Bits.WORD[1] + Bits.WORD[1] + Bits.WORD[0];
        good(head + one + "0" + "1", 255);
        String repeated = Bits.WORD[18] + "0000000" + Bits.WORD[16] + "00" + noughts(255 - 14) + Bits.WORD[1]
            + Bits.WORD[1] + Bits.WORD[0];
        good(head + repeated + "0" + "1", 255);
        repeated = Bits.WORD[17] + "000" + Bits.WORD[16] + "11" + noughts(255 - 9) + Bits.WORD[1] + Bits.WORD[1]
            + Bits.WORD[0];
        good(head + repeated + "0" + "1", 255);
    }

    /** ".. or beyond the row": each repetition that ends with the row, and the same with a row of one less. */
    private static void fault6BeyondTheRow() {
        for (int times = 3; times <= 6; times++) {
            beyond(Bits.WORD[16] + Plain.number(times - 3, 2), times);
        }
        for (int times = 3; times <= 10; times++) {
            beyond(Bits.WORD[17] + Plain.number(times - 3, 3), times);
        }
        for (int times = 11; times <= 29; times++) {
            beyond(Bits.WORD[18] + Plain.number(times - 11, 7), times);
        }
        // From the literals' end the longest goes beyond, wherever the row ends.
        for (int distances = 1; distances <= 30; distances++) {
            String ahead = DYNAMIC + Bits.alphabet(257, distances) + noughts(255) + Bits.WORD[1] + Bits.WORD[1];
            met(ahead + Bits.WORD[18] + Plain.number(138 - 11, 7), 6);
        }
    }

    /** 255 noughts, two literals' lengths and a distance's of 0, then the repetition. */
    private static void beyond(String repetition, int times) {
        String row = noughts(255) + Bits.WORD[1] + Bits.WORD[1] + Bits.WORD[0] + repetition;
        good(DYNAMIC + Bits.alphabet(257, 1 + times) + row + "0" + "1", 255);
        met(DYNAMIC + Bits.alphabet(257, times) + row, 6);
        if (times >= 4) {
            met(DYNAMIC + Bits.alphabet(257, times - 1) + row, 6);
        }
    }

    private static String noughts(int count) {
        StringBuilder bits = new StringBuilder();
        int rest = count;
        while (rest > 0) {
            int times = rest < 11 ? 1 : Math.min(138, rest);
            bits.append(times == 1 ? Bits.WORD[0] : Bits.WORD[18] + Plain.number(times - 11, 7));
            rest -= times;
        }
        return bits.toString();
    }

    /** "7 a code that is none (literals 286, 287, distances 30, 31 .." */
    private static void fault7OfFixed() {
        met(FIXED + LITERAL[286], 7);
        met(FIXED + LITERAL[287], 7);
        met(FIXED + LITERAL[1] + LITERAL[286], 7);
        for (int symbol : new int[] {257, 264, 265, 284, 285}) {
            int[] told = Plain.ofLengthSymbol(symbol);
            String length = LITERAL[symbol] + "1".repeat(told[2]);
            met(FIXED + LITERAL[1] + length + DISTANCE[30], 7);
            met(FIXED + LITERAL[1] + length + DISTANCE[31], 7);
        }
        int[] run = new int[259];
        Arrays.fill(run, 1);
        good(FIXED + LITERAL[1] + LITERAL[285] + DISTANCE[0] + LITERAL[256], run);
        // 29 is a code: its distance is beyond what there is.
        met(FIXED + LITERAL[1] + LITERAL[257] + DISTANCE[29] + "0".repeat(13), 8);
        met(FIXED + LITERAL[1] + LITERAL[257] + DISTANCE[28] + "1".repeat(13), 8);
    }

    /** ".. as soon as no code begins so ..": of one distance code the bit 1 begins none. */
    private static void fault7OfOneDistance() {
        for (int code : new int[] {0, 1, 2, 15, 29}) {
            int[] distances = Bits.codes(code + 1, code, 1);
            for (int symbol : new int[] {257, 264, 265, 268, 269, 280, 284, 285}) {
                int[] literals = Bits.codes(symbol + 1, 256, 2, 7, 1, symbol, 2);
                int extra = Plain.ofLengthSymbol(symbol)[2];
                String head = Bits.LAST + Bits.dynamic(literals, distances) + "0".repeat(2);
                met(head + "11" + "0".repeat(extra) + "1", 7);
                met(head + "11" + "1".repeat(extra) + "1", 7);
                if (code <= 1) {
                    int[] run = new int[2 + Plain.ofLengthSymbol(symbol)[1]];
                    Arrays.fill(run, 7);
                    good(head + "11" + "0".repeat(extra) + "0" + "10", run);
                }
            }
        }
    }

    /** ".. with no distance code at all behind the length's bits)": none of a distance is taken. */
    private static void fault7OfNoDistance() {
        for (int symbol : new int[] {257, 264, 265, 268, 269, 272, 273, 276, 277, 280, 281, 284, 285}) {
            int[] literals = Bits.codes(symbol + 1, 256, 2, 7, 1, symbol, 2);
            int extra = Plain.ofLengthSymbol(symbol)[2];
            for (int[] none : new int[][] {new int[1], new int[2], new int[30]}) {
                String head = Bits.LAST + Bits.dynamic(literals, none);
                met(head + "11" + "0".repeat(extra), 7);
                met(head + "0" + "11" + "1".repeat(extra), 7);
                // Without a match there is no fault.
                good(head + "0" + "0" + "10", 7, 7);
            }
        }
    }

    /** "8 a distance beyond what there is": as many as there are, and one more, of every distance's code. */
    private static void fault8() {
        met(FIXED + LITERAL[257] + DISTANCE[0], 8);
        for (int size : new int[] {1, 2, 3, 4, 5, 6, 7, 8, 9, 12, 13, 16, 17, 24, 25, 32, 33, 48, 49, 64, 65, 96, 97,
            128, 129, 192, 193, 256, 257, 384, 385, 512, 513, 768, 769, 1024, 1025, 1536, 1537, 2048, 2049, 3072, 3073,
            4095, 4096, 4097, 5000, 5996, 5997}) {
            String run = FIXED + Bits.run(9, size);
            int[] all = new int[size + 3];
            Arrays.fill(all, 9);
            good(run + Bits.match(3, size) + LITERAL[256], all);
            met(run + Bits.match(3, size + 1), 8);
        }
        // Told behind the distance's bits, of every code.
        for (int symbol = 1; symbol <= 29; symbol++) {
            int extra = Plain.ofDistanceSymbol(symbol)[2];
            met(FIXED + LITERAL[1] + LITERAL[257] + DISTANCE[symbol] + "0".repeat(extra), 8);
            met(FIXED + LITERAL[1] + LITERAL[257] + DISTANCE[symbol] + "1".repeat(extra), 8);
        }
        met(FIXED + Bits.run(9, 6000) + Bits.match(3, 6001), 8);
        // What blocks ahead told is there too.
        String ahead = Bits.MORE + Bits.FIXED + LITERAL[1] + LITERAL[2] + LITERAL[256];
        good(ahead + FIXED + Bits.match(3, 2) + LITERAL[256], 1, 2, 1, 2, 1);
        met(ahead + FIXED + Bits.match(3, 3), 8);
    }

    /** "9 more than 6000 bytes": by a byte, and by matches that end at 6000 and beyond. */
    private static void fault9() {
        int[] full = new int[6000];
        Arrays.fill(full, 9);
        good(FIXED + Bits.run(9, 5999) + LITERAL[256], Arrays.copyOf(full, 5999));
        good(FIXED + Bits.run(9, 6000) + LITERAL[256], full);
        good(FIXED + Bits.run(9, 5999) + LITERAL[9] + LITERAL[256], full);
        met(FIXED + Bits.run(9, 6000) + LITERAL[9], 9);
        for (int length : new int[] {3, 4, 10, 11, 100, 257, 258}) {
            good(FIXED + Bits.run(9, 6000 - length) + Bits.match(length, 1) + LITERAL[256], full);
            good(FIXED + Bits.run(9, 6000 - length) + Bits.match(length, 5000) + LITERAL[256], full);
            for (int size : new int[] {6001 - length, 5999, 6000}) {
                met(FIXED + Bits.run(9, size) + Bits.match(length, 1), 9);
                met(FIXED + Bits.run(9, size) + Bits.match(length, size), 9);
            }
        }
    }

    /** STORED bytes are taken one by one: the fault is met with the first that is too many. */
    private static void fault9OfStored() {
        int[] full = new int[6000];
        Arrays.fill(full, 9);
        for (int shift = 0; shift < 8; shift++) {
            for (int stored : new int[] {1, 2, 50}) {
                String run = Bits.ahead(shift) + Bits.MORE + Bits.FIXED + Bits.run(9, 6000 - stored) + LITERAL[256];
                String header = Bits.filled(run + Bits.LAST + Bits.STORED);
                goodAsIs(header + Bits.sizes(stored) + Plain.number(9, 8).repeat(stored), full);
                metAsIs(header + Bits.sizes(stored + 1) + Plain.number(9, 8).repeat(stored + 1), 9);
                metAsIs(header + Bits.sizes(0xffff) + Plain.number(9, 8).repeat(stored + 1), 9);
            }
        }
    }

    /** "faults, the first that is met" */
    private static void theFirstThatIsMet() {
        // A distance that is none, and that would be too far; too far, and too long.
        met(FIXED + LITERAL[257] + DISTANCE[30], 7);
        met(FIXED + Bits.run(9, 6000) + Bits.match(258, 6001), 8);
        // Kind 3 behind a good block, and behind the bytes' end.
        met(Bits.MORE + Bits.FIXED + LITERAL[5] + LITERAL[256] + Bits.LAST + "11", 2);
        // Too many codes ahead of an alphabet that is none.
        met(DYNAMIC + Plain.number(30, 5) + Plain.number(0, 9), 4);
        // The literals' and the distances' codes are looked at behind the whole row: its repetition goes first.
        met(DYNAMIC + Bits.alphabet(257, 3) + noughts(257) + Bits.WORD[18] + "0000000", 6);
    }

    /** Nothing of a block's codes, or of an earlier tape's, is left for the next block. */
    private static void codesOfTheBlockAlone() {
        String most = Bits.dynamic(Bits.codes(286, 256, 1, 285, 2, 0, 2), Bits.codes(30, 0, 1, 29, 1)) + "0";
        String fewest = Bits.dynamic(Bits.codes(257, 256, 1, 7, 1), new int[1]) + "0" + "1";
        String one = Bits.dynamic(Bits.codes(258, 256, 2, 7, 1, 257, 2), new int[] {1}) + "0" + "11" + "0" + "10";
        String none = Bits.dynamic(Bits.codes(258, 256, 2, 7, 1, 257, 2), new int[1]) + "0" + "11";
        good(Bits.MORE + most + Bits.LAST + fewest, 7);
        good(Bits.MORE + most + Bits.MORE + one + Bits.MORE + fewest + Bits.LAST + most, 7, 7, 7, 7, 7);
        met(Bits.MORE + most + Bits.LAST + none, 7);
        met(Bits.MORE + one + Bits.LAST + none, 7);
        // Of the 19 all but the last are told: that has none, whatever it had. 18 is 0, 0 is 10, 1 is 11.
        String but15 = Bits.DYNAMIC + Plain.number(0, 10) + Plain.number(18 - 4, 4) + "000000" + Plain.number(1, 3)
            + Plain.number(2, 3) + "000".repeat(13) + Plain.number(2, 3);
        String row = "0" + "1111111" + "0" + Plain.number(117 - 11, 7) + "11" + "11" + "10";
        good(Bits.LAST + but15 + row + "0" + "1", 255);
        good(Bits.MORE + most + Bits.LAST + but15 + row + "0" + "1", 255);
        met(Bits.MORE + most + the19(new int[] {1}, 4), 5);
        met(Bits.MORE + most + the19(new int[0], 4), 5);
        PackDesk desk = new PackDesk();
        for (int i = 0; i < 3; i++) {
            Desks.replace(desk, Plain.bytesOf(Bits.LAST + most));
            due.same("unpack()", Told.answer(desk, PackDesk::unpack), "0");
            Desks.replace(desk, Plain.bytesOf(Bits.LAST + fewest));
            due.same("unpack()", Told.answer(desk, PackDesk::unpack), "1");
            Desks.replace(desk, Desks.ofText(Desks.TEXT));
            desk.pack();
            desk.take();
            due.same("unpack()", Told.answer(desk, PackDesk::unpack), "" + Desks.TEXT.length());
        }
    }

    /** Each length at its own code, the least and the most of its bits, and 258 in both its forms. */
    private static void everyLength() {
        for (int symbol = 257; symbol <= 285; symbol++) {
            int[] told = Plain.ofLengthSymbol(symbol);
            for (int more : new int[] {0, (1 << told[2]) - 1}) {
                int[] run = new int[1 + told[1] + more];
                Arrays.fill(run, 200);
                goodAsIs(FIXED + LITERAL[200] + LITERAL[symbol] + Plain.number(more, told[2]) + DISTANCE[0]
                    + LITERAL[256], run);
            }
        }
    }

    /** Each distance's code, the least and the most that its bits can tell, up to what a tape can hold. */
    private static void everyDistance() {
        int[] noise = Desks.noise(5950, 4);
        StringBuilder bits = new StringBuilder(Bits.filled(Bits.MORE + Bits.STORED) + Bits.sizes(5900));
        for (int i = 0; i < 5900; i++) {
            bits.append(Plain.number(noise[i], 8));
        }
        for (int symbol = 0; symbol <= 24; symbol++) {
            int[] told = Plain.ofDistanceSymbol(symbol);
            for (int more : new int[] {0, (1 << told[2]) - 1}) {
                int distance = Math.min(5900, told[1] + more);
                int[] want = Arrays.copyOf(noise, 5910);
                for (int i = 5900; i < 5910; i++) {
                    want[i] = want[i - distance];
                }
                goodAsIs(bits + FIXED + Bits.match(10, distance) + LITERAL[256], want);
            }
        }
    }

    /** "Bits behind the last block, up to a byte's end, may be anything; bytes behind that are left." */
    private static void behindTheLastBlock() {
        for (int shift = 0; shift < 8; shift++) {
            String bits = Bits.ahead(shift) + FIXED + LITERAL[5] + LITERAL[256];
            int size = (bits.length() + 7) / 8;
            for (String behind : new String[] {"", "1", "1111111", "1".repeat(15), "0".repeat(300), "1".repeat(300)}) {
                goodAsIs(bits + behind, 5);
                PackDesk desk = Desks.with(Plain.bytesOf(bits + behind));
                int crc = desk.crc();
                desk.unpack();
                due.same("the tape's bytes", desk.about(0), (bits.length() + behind.length() + 7) / 8);
                due.same("the tape's CRC", desk.crc(), crc);
                due.same("cut to what is needed", desk.cut(size), true);
                due.same("unpack()", desk.unpack(), 1);
                due.same("cut by one more", desk.cut(size - 1), true);
                faultIs(desk, 1, size - 1);
            }
        }
    }

    /** unpack: "a fault (the output stays)"; and what throws changes nothing but what is told. */
    private static void nothingElseHasChanged() {
        String[] tapes = {"", FIXED + LITERAL[7] + LITERAL[8],
            Bits.MORE + Bits.FIXED + LITERAL[7] + LITERAL[256] + "111",
            Bits.filled(Bits.LAST + Bits.STORED) + Plain.number(0, 32),
            DYNAMIC + Plain.number(31, 5) + Plain.number(0, 9), the19(new int[] {1}, 19),
            DYNAMIC + Bits.alphabet(257, 1) + Bits.WORD[16], FIXED + LITERAL[7] + LITERAL[286],
            FIXED + LITERAL[7] + Bits.match(3, 2), FIXED + Bits.run(9, 6000) + LITERAL[9]};
        int[] faults = {1, 1, 2, 3, 4, 5, 6, 7, 8, 9};
        for (int i = 0; i < tapes.length; i++) {
            int[] bytes = Plain.bytesOf(tapes[i]);
            Consumer<PackDesk> busy = desk -> {
                States.busy(desk);
                Desks.replace(desk, bytes);
                desk.feed(1, 2, 3, 4, 5);
            };
            Told.faulty(due, "fault " + faults[i], busy, faults[i], (tapes[i].length() + 7) / 8);
            Consumer<PackDesk> full = desk -> {
                States.full(desk);
                Desks.replace(desk, bytes);
            };
            Told.faulty(due, "fault " + faults[i], full, faults[i], (tapes[i].length() + 7) / 8);
        }
    }

    /** fault: "0 without", "NONE without, and ahead of any", "NONE for another what"; always of the latest. */
    private static void promise15() {
        PackDesk desk = new PackDesk();
        due.same("fault(0) ahead of any", desk.fault(0), 0);
        due.same("fault(1) ahead of any", desk.fault(1), NONE);
        faultIs(desk, 1, 0);
        Desks.put(desk, 3, 0);
        due.same("fault(0) of the latest", desk.fault(0), 1);
        due.same("fault(1) of the latest", desk.fault(1), 0);
        due.same("unpack()", desk.unpack(), 0);
        due.same("fault(0) without", desk.fault(0), 0);
        due.same("fault(1) without", desk.fault(1), NONE);
        Desks.replace(desk, 7);
        faultIs(desk, 2, 1);
        for (int what : new int[] {Integer.MIN_VALUE, -1, 2, 3, Integer.MAX_VALUE}) {
            due.same("fault(" + what + ")", desk.fault(what), NONE);
        }
    }

    private static void faultIs(PackDesk desk, int fault, int place) {
        due.same("unpack()", Told.answer(desk, PackDesk::unpack), "IllegalArgumentException");
        due.same("fault(0)", desk.fault(0), fault);
        due.same("fault(1)", desk.fault(1), place);
    }

    /** The fault is met with the last of these bits, behind blocks that end at each bit of a byte. */
    private static void met(String bits, int fault) {
        for (int shift = 0; shift < 8; shift++) {
            metAsIs(Bits.ahead(shift) + bits, fault);
        }
    }

    private static void metAsIs(String bits, int fault) {
        int place = (bits.length() + 7) / 8;
        for (String behind : new String[] {"", "0".repeat(23), "1".repeat(23)}) {
            PackDesk desk = Desks.with(Plain.bytesOf(bits + behind));
            faultIs(desk, fault, place);
            due.same("the output stays", desk.about(1), 0);
        }
        PackDesk shorter = Desks.with(Plain.bytesOf(bits));
        shorter.cut(place - 1);
        faultIs(shorter, 1, place - 1);
    }

    private static void good(String bits, int... want) {
        for (int shift = 0; shift < 8; shift++) {
            goodAsIs(Bits.ahead(shift) + bits, want);
        }
    }

    private static void goodAsIs(String bits, int... want) {
        PackDesk desk = Desks.with(Plain.bytesOf(bits));
        due.same("unpack()", Told.answer(desk, PackDesk::unpack), "" + want.length);
        due.same("fault(0)", desk.fault(0), 0);
        due.same("fault(1)", desk.fault(1), NONE);
        due.same("output", Desks.outputOf(desk), want);
    }
}
