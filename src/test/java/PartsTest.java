import java.util.Arrays;

/** PARTS (promises 9 to 11): each bound of a match, of what is asked at the next place, and of a block's parts. */
public final class PartsTest {
    private static final int NONE = PackDesk.NONE;
    private static final Due due = new Due();

    public static void main(String[] args) {
        aheadOfAny();
        shortest();
        longest();
        ofEveryLength();
        farthest();
        farthestAtTheNextPlace();
        nearest();
        longestAheadOfNearest();
        intoItself();
        theEnd();
        theNextPlace();
        theNextPlaceAnew();
        theNextPlaceOfTheLongest();
        blockOfNone();
        blockOf600Bytes();
        blockOf600WithMatches();
        mostParts();
        ofTheLatest();
        due.end();
    }

    /** parts, blocks: "0 ahead of any". */
    private static void aheadOfAny() {
        PackDesk desk = Desks.with(1, 2, 3, 1, 2, 3);
        due.same("parts() ahead of any", desk.parts(), 0);
        due.same("blocks() ahead of any", desk.blocks(), 0);
        for (int what = 0; what <= 5; what++) {
            due.same("part(0, " + what + ") ahead of any", desk.part(0, what), NONE);
            due.same("block(0, " + what + ") ahead of any", desk.block(0, what), NONE);
        }
        due.same("code(0, 0, 256) ahead of any", desk.code(0, 0, 256), NONE);
        // A fault, or what is unpacked, is no pack().
        Desks.replace(desk, 3, 0);
        desk.unpack();
        due.same("parts() ahead of any", desk.parts(), 0);
        due.same("blocks() ahead of any", desk.blocks(), 0);
    }

    /** "the longest row of 3 .. 258 bytes": two that come again are none. */
    private static void shortest() {
        int[] ahead = rising(0, 100);
        for (int like = 0; like <= 5; like++) {
            int[] again = rising(10, like);
            String want = like < 3 ? literals(again) : like + "@90";
            tailIs(joined(ahead, again), 100, want);
            tailIs(joined(joined(ahead, again), 200, 201), 100, (want + " 200 201").trim());
        }
        tailIs(new int[] {7, 7, 7}, 0, "7 7 7");
        tailIs(new int[] {7, 7, 7, 7}, 0, "7 3@1");
    }

    private static void longest() {
        int[] ahead = Desks.noise(300, 1);
        tailIs(joined(ahead, Arrays.copyOf(ahead, 257)), 300, "257@300");
        tailIs(joined(ahead, Arrays.copyOf(ahead, 258)), 300, "258@300");
        tailIs(joined(ahead, Arrays.copyOf(ahead, 259)), 300, "258@300 " + ahead[258]);
        tailIs(joined(ahead, Arrays.copyOf(ahead, 260)), 300, "258@300 " + ahead[258] + " " + ahead[259]);
        tailIs(joined(ahead, Arrays.copyOf(ahead, 261)), 300, "258@300 3@300");
        tailIs(joined(ahead, Arrays.copyOf(ahead, 262)), 300, "258@300 4@300");
    }

    private static void ofEveryLength() {
        for (int length = 1; length <= 260; length++) {
            int[] run = new int[1 + length];
            Arrays.fill(run, 9);
            String want = length < 3 ? "9 9 9".substring(0, 1 + 2 * length)
                : length <= 258 ? "9 " + length + "@1" : length == 259 ? "9 258@1 9" : "9 258@1 9 9";
            tailIs(run, 0, want);
        }
    }

    /** "that also begins 1 .. 4096 bytes ahead": a row at a place from 200 on, the others of bytes below 100. */
    private static void farthest() {
        for (int distance : new int[] {101, 4094, 4095, 4096, 4097, 4098, 5990}) {
            int[] bytes = filler(distance + 8);
            put(bytes, 0, rising(200, 8));
            put(bytes, distance, rising(200, 8));
            tailIs(bytes, distance, distance <= 4096 ? "8@" + distance : literals(rising(200, 8)));
            // A shorter one that is near is taken where the longer one is too far.
            put(bytes, 50, joined(rising(200, 4), 250));
            tailIs(bytes, distance, distance <= 4096 ? "8@" + distance
                : distance - 50 <= 4096 ? "4@" + (distance - 50) + " 204 205 206 207" : literals(rising(200, 8)));
        }
        // The first byte of the row is too far, the second is not.
        int[] bytes = filler(4096 + 8);
        put(bytes, 0, rising(200, 8));
        put(bytes, 4096, joined(new int[] {250}, rising(201, 7)));
        tailIs(bytes, 4096, "250 7@4096");
    }

    /** The same bound holds for the match at the next place. */
    private static void farthestAtTheNextPlace() {
        for (int distance : new int[] {4095, 4096, 4097}) {
            int[] bytes = filler(distance + 30);
            int place = distance + 10;
            put(bytes, 11, joined(rising(211, 4), 251));
            put(bytes, 2000, joined(rising(210, 3), 250));
            put(bytes, place, joined(rising(210, 5), 252));
            bytes = Arrays.copyOf(bytes, place + 6);
            tailIs(bytes, place, distance <= 4096 ? "210 4@" + distance + " 252"
                : "3@" + (place - 2000) + " 213 214 252");
        }
    }

    /** "of several the nearest" */
    private static void nearest() {
        for (int length : new int[] {3, 4, 50}) {
            int[] row = rising(100, length);
            int[] bytes = joined(row, 1);
            for (int times = 2; times <= 5; times++) {
                bytes = joined(bytes, joined(row, times));
            }
            tailIs(bytes, 4 * (length + 1), length + "@" + (length + 1) + " 5");
        }
        // The nearest of 4096 and 4095 ahead.
        int[] bytes = filler(4200);
        put(bytes, 100, new int[] {200, 200, 200, 200, 201});
        int[] row = {200, 200, 200};
        put(bytes, 4196, row);
        bytes = Arrays.copyOf(bytes, 4199);
        tailIs(bytes, 4196, "3@4095");
    }

    private static void longestAheadOfNearest() {
        int[] far = joined(rising(100, 6), 1);
        int[] near = joined(rising(100, 5), 2);
        tailIs(joined(joined(far, near), joined(rising(100, 6), 3)), 13, "6@13 3");
        tailIs(joined(joined(far, near), joined(rising(100, 5), 3)), 13, "5@6 3");
        tailIs(joined(joined(near, far), joined(rising(100, 6), 3)), 13, "6@7 3");
    }

    /** "it may reach on into itself" */
    private static void intoItself() {
        for (int distance : new int[] {1, 2, 3, 4, 100, 255, 256, 257, 258, 259}) {
            int[] ahead = Desks.noise(distance, 77);
            int[] bytes = new int[distance + 258];
            for (int i = 0; i < bytes.length; i++) {
                bytes[i] = ahead[i % distance];
            }
            tailIs(bytes, distance, "258@" + distance);
            tailIs(Arrays.copyOf(bytes, distance + 3), distance, "3@" + distance);
        }
    }

    /** "at the next place no longer one is (none at the end)" */
    private static void theEnd() {
        int[] ahead = rising(0, 10);
        tailIs(joined(ahead, 0, 1, 2), 10, "3@10");
        tailIs(joined(ahead, 0, 1), 10, "0 1");
        tailIs(joined(ahead, 0), 10, "0");
        tailIs(joined(ahead, 7, 8, 9), 10, "3@3");
        tailIs(joined(ahead, 50, 0, 1, 2), 10, "50 3@11");
        tailIs(new int[] {4}, 0, "4");
        tailIs(new int[] {4, 5}, 0, "4 5");
        tailIs(new int[0], 0, "");
    }

    /** "if there is one, and at the next place no longer one is .., the match is a part ..; else the byte is a part" */
    private static void theNextPlace() {
        int[] three = {50, 51, 52, 90};
        int[] row = rising(50, 9);
        for (int next = 2; next <= 6; next++) {
            int[] bytes = joined(joined(three, joined(rising(51, next), 91)), joined(row, 92));
            int place = 4 + next + 1;
            // Only a longer one than 3 at the next place makes the byte a part.
            String rest = literals(rising(51 + next, 9 - 1 - next)) + " 92";
            tailIs(bytes, place, next > 3 ? "50 " + next + "@" + (place + 1 - 4) + " " + rest
                : "3@" + place + " " + literals(rising(53, 6)) + " 92");
        }
        // A longer one two places on is not asked for.
        int[] bytes = joined(joined(three, joined(rising(52, 7), 91)), joined(row, 92));
        tailIs(bytes, 12, "3@12 6@10 92");
    }

    /** "and it goes on at the next place, which is asked anew" */
    private static void theNextPlaceAnew() {
        int[] three = {50, 51, 52, 90};
        int[] four = {51, 52, 53, 54, 91};
        int[] five = {52, 53, 54, 55, 56, 92};
        int[] six = {53, 54, 55, 56, 57, 58, 93};
        int[] row = joined(rising(50, 9), 94);
        tailIs(joined(joined(joined(three, four), joined(five, six)), row), 22, "50 51 52 6@10 94");
        tailIs(joined(joined(three, four), joined(five, row)), 15, "50 51 5@8 57 58 94");
        tailIs(joined(joined(three, five), row), 10, "3@10 4@8 57 58 94");
        // The match at the next place is taken with its own distance, and the next is asked from there.
        tailIs(joined(joined(four, five), row), 11, "50 51 5@8 57 58 94");
    }

    private static void theNextPlaceOfTheLongest() {
        int[] row = Desks.noise(260, 33);
        int[] first256 = Arrays.copyOf(row, 256);
        int[] ahead = joined(joined(new int[] {7}, joined(first256, 1)), joined(row, 2));
        // Here 7 and 256 of the row, at the next place 258 of it.
        int[] target = joined(new int[] {7}, Arrays.copyOf(row, 258));
        tailIs(joined(ahead, target), ahead.length, "7 258@262");
        // 257 at the next place are no more than 257 here.
        int[] shorter = joined(new int[] {7}, Arrays.copyOf(row, 257));
        tailIs(joined(ahead, shorter), ahead.length, "257@" + ahead.length + " " + row[256]);
        // 258 here: none can be longer.
        int[] first257 = joined(joined(new int[] {7}, joined(Arrays.copyOf(row, 257), 1)), joined(row, 2));
        tailIs(joined(first257, target), first257.length, "258@" + first257.length + " " + row[257]);
    }

    /** "of no bytes: one block of none" */
    private static void blockOfNone() {
        PackDesk desk = Desks.with(1, 2, 3);
        desk.pack();
        desk.cut(0);
        desk.pack();
        due.same("parts()", desk.parts(), 0);
        due.same("blocks()", desk.blocks(), 1);
        due.same("block(0, 1)", desk.block(0, 1), 0);
        due.same("block(0, 2)", desk.block(0, 2), 0);
        due.same("part(0, 2)", desk.part(0, 2), NONE);
        due.same("the last is told so", desk.output(0) & 1, 1);
        Desks.put(desk, 5);
        desk.pack();
        due.same("blocks() of one byte", desk.blocks(), 1);
        due.same("block(0, 1) of one byte", desk.block(0, 1), 1);
    }

    /** "a BLOCK are up to 600, one at least" */
    private static void blockOf600Bytes() {
        int[] noise = Desks.noise(1801, 600);
        for (int size : new int[] {1, 2, 599, 600, 601, 602, 1199, 1200, 1201, 1799, 1800, 1801}) {
            PackDesk desk = Desks.with(Arrays.copyOf(noise, size));
            desk.pack();
            int blocks = size / 600 + (size % 600 == 0 ? 0 : 1);
            due.same("parts() of " + size, desk.parts(), size);
            due.same("blocks() of " + size, desk.blocks(), blocks);
            for (int k = 0; k < blocks; k++) {
                int parts = k < blocks - 1 || size % 600 == 0 ? 600 : size % 600;
                due.same("block(" + k + ", 1) of " + size, desk.block(k, 1), parts);
                due.same("block(" + k + ", 2) of " + size, desk.block(k, 2), parts);
                due.same("first part's block", desk.part(600 * k, 2), k);
                due.same("last part's block", desk.part(600 * k + parts - 1, 2), k);
            }
            due.same("block(blocks, 1) of " + size, desk.block(blocks, 1), NONE);
        }
    }

    /** The 600th part, or the 601st, is a match: a match counts one, whatever its bytes. */
    private static void blockOf600WithMatches() {
        int[] noise = Desks.noise(599, 8);
        int[] longer = joined(joined(noise, Arrays.copyOfRange(noise, 10, 50)), Arrays.copyOfRange(noise, 100, 107));
        PackDesk desk = Desks.with(longer);
        desk.pack();
        due.same("parts()", desk.parts(), 601);
        due.same("blocks()", desk.blocks(), 2);
        due.same("part(599, 0)", desk.part(599, 0), 40);
        due.same("part(599, 2)", desk.part(599, 2), 0);
        due.same("part(600, 0)", desk.part(600, 0), 7);
        due.same("part(600, 1)", desk.part(600, 1), 639 - 100);
        due.same("part(600, 2)", desk.part(600, 2), 1);
        due.same("block(0, 1)", desk.block(0, 1), 600);
        due.same("block(0, 2)", desk.block(0, 2), 639);
        due.same("block(1, 1)", desk.block(1, 1), 1);
        due.same("block(1, 2)", desk.block(1, 2), 7);
        desk.cut(639);
        desk.pack();
        due.same("parts()", desk.parts(), 600);
        due.same("blocks()", desk.blocks(), 1);
        PackTest.compare(due, Desks.with(longer), longer);
    }

    private static void mostParts() {
        PackDesk desk = Desks.with(Desks.noise(6000, 9));
        desk.pack();
        due.same("parts()", desk.parts(), 6000);
        due.same("part(5999, 2)", desk.part(5999, 2), 9);
        due.same("part(6000, 0)", desk.part(6000, 0), NONE);
        due.same("blocks()", desk.blocks(), 10);
        due.same("block(9, 1)", desk.block(9, 1), 600);
        due.same("block(10, 1)", desk.block(10, 1), NONE);
        // 1 + 23 * 258 + 65: the fewest parts of as many bytes.
        Desks.replace(desk, new int[6000]);
        desk.pack();
        due.same("parts()", desk.parts(), 25);
        due.same("part(23, 0)", desk.part(23, 0), 258);
        due.same("part(24, 0)", desk.part(24, 0), 65);
        due.same("part(25, 0)", desk.part(25, 0), NONE);
        due.same("block(0, 2)", desk.block(0, 2), 6000);
    }

    /** What an earlier pack() told is no longer told where the latest has less. */
    private static void ofTheLatest() {
        PackDesk desk = Desks.with(Desks.noise(1300, 10));
        desk.pack();
        due.same("blocks()", desk.blocks(), 3);
        Desks.replace(desk, 1, 2, 3);
        due.same("parts() of the pack() before", desk.parts(), 1300);
        desk.pack();
        due.same("parts()", desk.parts(), 3);
        due.same("part(2, 0)", desk.part(2, 0), 3);
        due.same("part(3, 0)", desk.part(3, 0), NONE);
        due.same("blocks()", desk.blocks(), 1);
        due.same("block(1, 0)", desk.block(1, 0), NONE);
        due.same("block(2, 0)", desk.block(2, 0), NONE);
    }

    /** The parts from a place on, at which one must begin: bytes as numbers, matches as length@distance. */
    private static void tailIs(int[] bytes, int from, String want) {
        PackDesk desk = Desks.with(bytes);
        desk.pack();
        StringBuilder got = new StringBuilder();
        int place = 0;
        for (int k = 0; k < desk.parts(); k++) {
            boolean isByte = desk.part(k, 1) == 0;
            if (place >= from) {
                got.append(got.length() == 0 ? "" : " ").append(desk.part(k, 0));
                got.append(isByte ? "" : "@" + desk.part(k, 1));
            }
            place += isByte ? 1 : desk.part(k, 0);
            if (place > from && got.length() == 0) {
                got.append("?");
            }
        }
        due.same("parts from " + from + " on of " + bytes.length, got.toString(), want);
        due.same("bytes that the parts tell", place, bytes.length);
        due.same("parts() as in the plain form", desk.parts(), Plain.parts(bytes).size());
    }

    private static int[] rising(int first, int count) {
        int[] bytes = new int[count];
        for (int i = 0; i < count; i++) {
            bytes[i] = first + i;
        }
        return bytes;
    }

    /** Bytes below 100 alone. */
    private static int[] filler(int size) {
        int[] bytes = new int[size];
        for (int i = 0; i < size; i++) {
            bytes[i] = i % 100;
        }
        return bytes;
    }

    private static void put(int[] bytes, int place, int[] row) {
        System.arraycopy(row, 0, bytes, place, row.length);
    }

    private static int[] joined(int[] first, int... second) {
        int[] both = Arrays.copyOf(first, first.length + second.length);
        System.arraycopy(second, 0, both, first.length, second.length);
        return both;
    }

    private static String literals(int[] bytes) {
        StringBuilder text = new StringBuilder();
        for (int value : bytes) {
            text.append(text.length() == 0 ? "" : " ").append(value);
        }
        return text.toString();
    }
}
