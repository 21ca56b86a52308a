import java.util.Arrays;
import java.util.List;
import java.util.Random;
import java.util.zip.DataFormatException;
import java.util.zip.Inflater;

/** Promises 8 to 13: pack, parts, part, blocks, block, code. */
public final class PackTest {
    private static final int NONE = PackDesk.NONE;
    private static final Due due = new Due();

    public static void main(String[] args) {
        promise8Nothing();
        promise8Again();
        promise9And10Lazy();
        promise9And10Nearest();
        promise9And10Reach();
        promise9And10Longest();
        promise10Wrong();
        promise11Edges();
        promise12Stored();
        promise12Ties();
        promise12FixedTies();
        promise12Wrong();
        promise13NoDistances();
        promise13Wrong();
        rowsByRepeats();
        samples();
        due.end();
    }

    private static void promise8Nothing() {
        PackDesk desk = new PackDesk();
        due.same("pack()", desk.pack(), 2);
        due.same("output", Desks.outputOf(desk), new int[] {3, 0});
        due.same("parts()", desk.parts(), 0);
        due.same("part(0, 2)", desk.part(0, 2), NONE);
        due.same("blocks()", desk.blocks(), 1);
        due.same("facts", facts(desk, 0), new int[] {1, 0, 0, 10, 10, 90});
        due.same("block(1, 0)", desk.block(1, 0), NONE);
    }

    /** What is told is of the latest pack(), and stays whatever happens to the tape. */
    private static void promise8Again() {
        PackDesk desk = Desks.with(Desks.ofText("abcabcabcabc"));
        desk.pack();
        int parts = desk.parts();
        desk.flip(0, 0);
        desk.cut(2);
        due.same("parts()", desk.parts(), parts);
        due.same("part(0, 0)", desk.part(0, 0), 'a');
        desk.take();
        desk.unpack();
        due.same("parts()", desk.parts(), parts);
        due.same("block(0, 2)", desk.block(0, 2), 12);
        desk.cut(0);
        desk.pack();
        due.same("parts()", desk.parts(), 0);
        due.same("part(0, 0)", desk.part(0, 0), NONE);
        due.same("block(0, 2)", desk.block(0, 2), 0);
    }

    private static void promise9And10Lazy() {
        // At the second "abc" the match is of 3, one place on "bcde" is of 4: the byte is a part.
        partsAre("abcXbcdeYabcde", "a b c X b c d e Y a 4@6");
        // A longer one two places on does not count; at each place it is asked anew.
        partsAre("abcXcdefgYabcdefg", "a b c X c d e f g Y 3@10 4@8");
        partsAre("abcXbcdeYcdefgZabcdefg", "a b c X b c d e Y 3@4 f g Z a b 5@8");
        // As long is not longer.
        partsAre("abcXbcdYabcd", "a b c X b c d Y 3@8 d");
        partsAre("", "");
        partsAre("aa", "a a");
        partsAre("aaa", "a a a");
        partsAre("aaaa", "a 3@1");
        partsAre("abab", "a b a b");
        partsAre("ababa", "a b 3@2");
    }

    private static void promise9And10Nearest() {
        partsAre("abcXabcYabcZ", "a b c X 3@4 Y 3@4 Z");
        partsAre("abcdXabcYabcd", "a b c d X 3@5 Y 4@9");
    }

    private static void promise9And10Reach() {
        for (int distance : new int[] {4095, 4096, 4097}) {
            int[] bytes = new int[distance + 5];
            int[] row = {201, 202, 203, 204, 205};
            // Between the two rows stand bytes of which no three are the row's.
            for (int i = 0; i < bytes.length; i++) {
                bytes[i] = i % 100;
            }
            System.arraycopy(row, 0, bytes, 0, 5);
            System.arraycopy(row, 0, bytes, distance, 5);
            PackDesk desk = Desks.with(bytes);
            desk.pack();
            int last = desk.parts() - 1;
            due.same("distance of the last part", desk.part(last, 1), distance <= 4096 ? distance : 0);
            due.same("its amount", desk.part(last, 0), distance <= 4096 ? 5 : 205);
            same(bytes);
        }
    }

    private static void promise9And10Longest() {
        for (int size : new int[] {258, 259, 260, 261, 262, 517, 518, 519, 6000}) {
            int[] bytes = new int[size];
            Arrays.fill(bytes, 9);
            same(bytes);
            PackDesk desk = Desks.with(bytes);
            desk.pack();
            due.same("part(1, 0)", desk.part(1, 0), Math.min(258, size - 1));
        }
        // Two that are left behind 258 are bytes, not a match.
        int[] bytes = new int[261];
        PackDesk desk = Desks.with(bytes);
        desk.pack();
        due.same("parts()", desk.parts(), 4);
        due.same("part(3, 1)", desk.part(3, 1), 0);
    }

    private static void promise10Wrong() {
        PackDesk desk = Desks.with(Desks.ofText("abcabcabc"));
        desk.pack();
        due.same("parts()", desk.parts(), 4);
        due.same("part(3, 2)", desk.part(3, 2), 0);
        int[][] wrong = {{4, 0}, {-1, 0}, {0, 3}, {0, -1}, {Integer.MAX_VALUE, 0}, {Integer.MIN_VALUE, 1},
            {0, Integer.MAX_VALUE}, {0, Integer.MIN_VALUE}, {6000, 2}};
        for (int[] call : wrong) {
            due.same("part " + call[0] + " " + call[1], desk.part(call[0], call[1]), NONE);
        }
    }

    private static void promise11Edges() {
        due.same("blocks() ahead of any", new PackDesk().blocks(), 0);
        int[] noise = Desks.noise(6000, 11);
        for (int size : new int[] {1, 599, 600, 601, 1200, 1201, 5400, 5401, 6000}) {
            int[] bytes = Arrays.copyOf(noise, size);
            PackDesk desk = Desks.with(bytes);
            int packed = desk.pack();
            due.same("parts()", desk.parts(), size);
            due.same("blocks()", desk.blocks(), (size + 599) / 600);
            due.same("part(last, 2)", desk.part(size - 1, 2), (size - 1) / 600);
            due.same("parts of the last", desk.block(desk.blocks() - 1, 1), (size - 1) % 600 + 1);
            due.same("never more than 6100", packed <= 6100, true);
            same(bytes);
        }
    }

    private static void promise12Stored() {
        PackDesk desk = Desks.with(Desks.noise(601, 12));
        desk.pack();
        due.same("way", desk.block(0, 0), 0);
        due.same("bits with those up to a byte's end", desk.block(0, 3), 40 + 4800);
        due.same("bytes", desk.block(0, 2), 600);
        due.same("output(0)", desk.output(0), 0);
        due.same("output(1)", desk.output(1), 600 & 255);
        due.same("output(2)", desk.output(2), 600 >> 8);
        due.same("output(3)", desk.output(3), ~600 & 255);
        due.same("output(4)", desk.output(4), ~600 >> 8 & 255);
    }

    /** Rows whose ways take as many bits: STORED goes ahead of FIXED. */
    private static void promise12Ties() {
        // n bytes of 9 bits each: FIXED takes 3 + 9 n + 7, STORED 8 + 32 + 8 n, the same for n = 30.
        for (int n = 28; n <= 32; n++) {
            int[] bytes = new int[n];
            for (int i = 0; i < n; i++) {
                bytes[i] = 144 + i * 37 % 112; // far apart: a head that tells them is dear
            }
            PackDesk desk = Desks.with(bytes);
            desk.pack();
            due.same("FIXED's bits", desk.block(0, 4), 10 + 9 * n);
            due.same("way of " + n, desk.block(0, 0), n < 30 ? 1 : 0);
            due.same("bits of " + n, desk.block(0, 3), Math.min(10 + 9 * n, 40 + 8 * n));
            same(bytes);
        }
    }

    /** Texts by chance of which FIXED and DYNAMIC take as many bits: FIXED goes ahead. */
    private static void promise12FixedTies() {
        int ties = 0;
        for (int seed = 0; seed < 4000 && ties < 5; seed++) {
            Random random = new Random(seed);
            int[] bytes = new int[16 + random.nextInt(30)];
            for (int i = 0; i < bytes.length; i++) {
                bytes[i] = 97 + Math.min(random.nextInt(14), random.nextInt(14));
            }
            PackDesk desk = Desks.with(bytes);
            desk.pack();
            if (desk.block(0, 4) == desk.block(0, 5) && desk.block(0, 4) < 40 + 8 * bytes.length) {
                ties++;
                due.same("way of a tie", desk.block(0, 0), 1);
                same(bytes);
            }
        }
        due.same("ties found", ties, 5);
    }

    private static void promise12Wrong() {
        PackDesk desk = Desks.with(Desks.ofText("abcabcabc"));
        due.same("block(0, 0) ahead of any", desk.block(0, 0), NONE);
        desk.pack();
        int[][] wrong = {{1, 0}, {-1, 0}, {0, 6}, {0, -1}, {Integer.MAX_VALUE, 0}, {Integer.MIN_VALUE, 0},
            {0, Integer.MAX_VALUE}, {0, Integer.MIN_VALUE}, {10, 3}, {9, 3}};
        for (int[] call : wrong) {
            due.same("block " + call[0] + " " + call[1], desk.block(call[0], call[1]), NONE);
        }
    }

    /** Bytes without any match, told by a DYNAMIC block: one distance code of length 1. */
    private static void promise13NoDistances() {
        int[] bytes = new int[200];
        Random random = new Random(13);
        for (int i = 0; i < bytes.length; i++) {
            do {
                bytes[i] = 65 + random.nextInt(8);
            } while (i >= 3 && Plain.match(Arrays.copyOf(bytes, i + 1), i - 2) != null && random.nextInt(500) > 0);
        }
        PackDesk desk = new PackDesk();
        int size = 0;
        for (int n = 20; n <= bytes.length && Plain.parts(Arrays.copyOf(bytes, n)).size() == n; n++) {
            size = n;
        }
        Desks.put(desk, Arrays.copyOf(bytes, size));
        desk.pack();
        due.same("way of " + size, desk.block(0, 0), 2);
        due.same("code(0, 1, 0)", desk.code(0, 1, 0), 1);
        due.same("code(0, 1, 1)", desk.code(0, 1, 1), 0);
        due.same("code(0, 0, 10)", desk.code(0, 0, 10), 0);
        same(Arrays.copyOf(bytes, size));
    }

    private static void promise13Wrong() {
        PackDesk desk = Desks.with(Desks.noise(600, 17));
        due.same("code ahead of any", desk.code(0, 0, 0), NONE);
        desk.pack();
        due.same("STORED", desk.block(0, 0), 0);
        due.same("code of STORED", desk.code(0, 0, 256), NONE);
        Desks.replace(desk, 1, 2, 3);
        desk.pack();
        due.same("FIXED", desk.block(0, 0), 1);
        due.same("code of FIXED", desk.code(0, 0, 256), NONE);
        Desks.replace(desk, Desks.ofText(Desks.TEXT));
        desk.pack();
        due.same("DYNAMIC", desk.block(0, 0), 2);
        due.same("code(0, 0, 256) is one", desk.code(0, 0, 256) > 0, true);
        int[][] wrong = {{0, 0, 286}, {0, 0, -1}, {0, 1, 30}, {0, 1, -1}, {0, 2, 19}, {0, 2, -1}, {0, 3, 0}, {0, -1, 0},
            {1, 0, 0}, {-1, 0, 0}, {0, 0, Integer.MAX_VALUE}, {0, 0, Integer.MIN_VALUE}, {Integer.MAX_VALUE, 0, 0},
            {Integer.MIN_VALUE, 0, 0}, {0, Integer.MAX_VALUE, 0}, {0, Integer.MIN_VALUE, 0}};
        for (int[] call : wrong) {
            due.same("code " + Arrays.toString(call), desk.code(call[0], call[1], call[2]), NONE);
        }
        due.same("code(0, 0, 285)", desk.code(0, 0, 285), 0);
        due.same("code(0, 1, 29)", desk.code(0, 1, 29), 0);
        due.same("code(0, 2, 15)", desk.code(0, 2, 15), 0);
    }

    /** Bytes that come so often that the row of lengths has like ones and noughts of every number. */
    private static void rowsByRepeats() {
        for (int used = 3; used <= 40; used++) {
            for (int gap = 1; gap <= 12; gap += 3) {
                Random random = new Random(used * 100 + gap);
                int[] bytes = new int[590];
                for (int i = 0; i < bytes.length; i++) {
                    int symbol = random.nextInt(used);
                    bytes[i] = (symbol + symbol / 5 * gap) & 255;
                }
                same(bytes);
            }
        }
    }

    private static void samples() {
        same(Desks.ofText(Desks.TEXT));
        int[] mixed = new int[6000];
        Random random = new Random(3);
        for (int i = 0; i < mixed.length; i++) {
            int kind = i / 700 % 4;
            mixed[i] = kind == 0 ? random.nextInt(256)
                : kind == 1 ? Desks.TEXT.charAt(i % Desks.TEXT.length())
                : kind == 2 ? random.nextInt(3) : 32 + random.nextInt(40);
        }
        same(mixed);
        // Weights that rise as Fibonacci's numbers do: the codes reach beyond what 7 and 15 allow.
        int[] steep = new int[6000];
        int at = 0;
        for (int symbol = 0, times = 1, next = 1; at < steep.length; symbol++) {
            for (int i = 0; i < times && at < steep.length; i++, at++) {
                steep[at] = symbol * 7 & 255;
            }
            int sum = times + next;
            times = next;
            next = sum;
        }
        for (int i = steep.length - 1; i > 0; i--) {
            int other = random.nextInt(i + 1);
            int held = steep[i];
            steep[i] = steep[other];
            steep[other] = held;
        }
        same(steep);
    }

    private static void partsAre(String text, String want) {
        PackDesk desk = Desks.with(Desks.ofText(text));
        desk.pack();
        StringBuilder got = new StringBuilder();
        for (int k = 0; k < desk.parts(); k++) {
            got.append(k == 0 ? "" : " ");
            if (desk.part(k, 1) == 0) {
                got.append((char) desk.part(k, 0));
            } else {
                got.append(desk.part(k, 0)).append('@').append(desk.part(k, 1));
            }
        }
        due.same("parts of " + text, got.toString(), want);
        same(Desks.ofText(text));
    }

    /** All that is told of a packing is what the plain form tells, and any other unpacker reads it. */
    static void same(int[] bytes) {
        compare(due, Desks.with(bytes), bytes);
    }

    static void compare(Due due, PackDesk desk, int[] bytes) {
        Plain.Packed want = Plain.pack(bytes);
        due.same("pack()", desk.pack(), want.bytes.length);
        due.same("output", Desks.outputOf(desk), want.bytes);
        due.same("parts()", desk.parts(), want.parts.size());
        for (int k = 0; k < want.parts.size(); k++) {
            due.same("part " + k, new int[] {desk.part(k, 0), desk.part(k, 1), desk.part(k, 2)},
                new int[] {want.parts.get(k)[0], want.parts.get(k)[1], k / 600});
        }
        due.same("blocks()", desk.blocks(), want.blocks.size());
        for (int k = 0; k < want.blocks.size(); k++) {
            due.same("facts of block " + k, facts(desk, k), want.blocks.get(k));
            compareCodes(due, desk, k, want.codes);
        }
        due.same("inflated", inflated(want.bytes, bytes.length), bytes);
    }

    private static void compareCodes(Due due, PackDesk desk, int k, List<int[][]> codes) {
        int[] sizes = {286, 30, 19};
        for (int which = 0; which < 3; which++) {
            int[] want = new int[sizes[which]];
            int[] got = new int[sizes[which]];
            for (int symbol = 0; symbol < sizes[which]; symbol++) {
                want[symbol] = codes.get(k) == null ? NONE : codes.get(k)[which][symbol];
                got[symbol] = desk.code(k, which, symbol);
            }
            due.same("code " + k + " " + which, got, want);
        }
    }

    private static int[] facts(PackDesk desk, int k) {
        int[] facts = new int[6];
        for (int what = 0; what < 6; what++) {
            facts[what] = desk.block(k, what);
        }
        return facts;
    }

    private static int[] inflated(int[] packed, int size) {
        Inflater inflater = new Inflater(true);
        try {
            inflater.setInput(Desks.asBytes(packed));
            byte[] bytes = new byte[size + 1];
            int got = inflater.inflate(bytes);
            return inflater.finished() ? Desks.asInts(bytes, got) : new int[] {NONE};
        } catch (DataFormatException e) {
            return new int[] {NONE, NONE};
        } finally {
            inflater.end();
        }
    }
}
