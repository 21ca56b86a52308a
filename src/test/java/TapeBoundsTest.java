import java.util.Arrays;
import java.util.zip.CRC32;

/** THE TAPE and THE OUTPUT: each bound of promises 1 to 7, 16 and 20, at it and on both sides of it. */
public final class TapeBoundsTest {
    private static final int NONE = PackDesk.NONE;
    private static final int MIN = Integer.MIN_VALUE;
    private static final int MAX = Integer.MAX_VALUE;
    private static final int[] NUMBERED = {1, 2, 3, 4, 5, 6, 7, 8, 9, 10, 11, 12, 13, 14, 15, 16, 17, 18, 19, 20};
    private static final Due due = new Due();

    public static void main(String[] args) {
        readyAtFirst();
        feedsOfEveryByte();
        readyBehindEnd();
        endByAllThree();
        endUpToTheLastByte();
        cuts();
        cutBytesAreGone();
        flips();
        takes();
        takesWhatIsUnpacked();
        crcs();
        outputs();
        abouts();
        due.end();
    }

    /** feed: "They are 0 at first". */
    private static void readyAtFirst() {
        for (int n = 0; n <= 20; n++) {
            PackDesk desk = new PackDesk();
            due.same("end(" + n + ", 1) ahead of any feed()", desk.end(n, 1), n);
            tapeIs(desk, new int[n]);
        }
    }

    /** feed: "twenty bytes ready, those of a first, the highest of each first", whatever the sign. */
    private static void feedsOfEveryByte() {
        int[] words = {0, 1, 255, 256, 0x7fffffff, MIN, -1, 0x80, 0x8000, 0x800000, 0xff000000, 0x01020304, 0xfefdfcfb};
        for (int at = 0; at < 5; at++) {
            for (int word : words) {
                int[] fed = new int[5];
                fed[at] = word;
                int[] want = new int[20];
                for (int i = 0; i < 4; i++) {
                    want[4 * at + i] = (int) ((word & 0xffffffffL) / (1L << 24 - 8 * i) % 256);
                }
                PackDesk desk = new PackDesk();
                desk.feed(fed[0], fed[1], fed[2], fed[3], fed[4]);
                due.same("end(20, 1)", desk.end(20, 1), 20);
                tapeIs(desk, want);
            }
        }
        for (int n = 0; n <= 20; n++) {
            PackDesk desk = new PackDesk();
            feedNumbered(desk);
            due.same("end", desk.end(n, 1), n);
            tapeIs(desk, Arrays.copyOf(NUMBERED, n));
        }
    }

    /** feed: the bytes are 0 "behind each end() that answers a number"; so not behind one that doesn't. */
    private static void readyBehindEnd() {
        int[][] answered = {{0, 1}, {0, 100}, {1, 1}, {20, 1}, {20, 100}};
        for (int[] call : answered) {
            PackDesk desk = new PackDesk();
            feedNumbered(desk);
            due.same("end", desk.end(call[0], call[1]), call[0] * call[1]);
            readyIs(desk, new int[20]);
        }
        int[][] refused = {{-1, 1}, {21, 1}, {0, 0}, {0, 101}, {20, 0}, {20, 101}, {20, -1}};
        for (int[] call : refused) {
            PackDesk desk = new PackDesk();
            feedNumbered(desk);
            due.same("end", desk.end(call[0], call[1]), NONE);
            readyIs(desk, NUMBERED);
        }
        // A full tape: nothing comes of one byte, of none it is a number.
        PackDesk full = filled(6000);
        feedNumbered(full);
        due.same("end(1, 1) of a full tape", full.end(1, 1), NONE);
        readyIs(full, NUMBERED);
        full = filled(6000);
        feedNumbered(full);
        due.same("end(0, 1) of a full tape", full.end(0, 1), 6000);
        readyIs(full, new int[20]);
    }

    /** end: "if n is not 0 .. 20, times is not (1 .. 100), or it would have more than 6000". */
    private static void endByAllThree() {
        for (int size : new int[] {0, 1, 3999, 4000, 4001, 5899, 5900, 5901, 5979, 5980, 5981, 5998, 5999, 6000}) {
            for (int n : new int[] {MIN, -1, 0, 1, 2, 10, 19, 20, 21, MAX}) {
                for (int times : new int[] {MIN, -1, 0, 1, 2, 50, 99, 100, 101, MAX}) {
                    endBy(size, n, times);
                }
            }
        }
    }

    private static void endBy(int size, int n, int times) {
        boolean fits = n >= 0 && n <= 20 && times >= 1 && times <= 100 && size + (long) n * times <= 6000;
        int more = fits ? n * times : 0;
        PackDesk desk = filled(size);
        feedNumbered(desk);
        due.same("end(" + n + ", " + times + ") of " + size, desk.end(n, times), fits ? size + more : NONE);
        int[] want = Arrays.copyOf(filling(size), size + more);
        for (int i = 0; i < more; i++) {
            want[size + i] = NUMBERED[i % n];
        }
        tapeIs(desk, want);
        readyIs(desk, fits ? new int[20] : NUMBERED);
    }

    /** THE TAPE has "at most 6000": one by one up to there. */
    private static void endUpToTheLastByte() {
        PackDesk desk = filled(5990);
        for (int size = 5991; size <= 6000; size++) {
            due.same("end(1, 1)", desk.end(1, 1), size);
        }
        for (int i = 0; i < 3; i++) {
            due.same("end(1, 1)", desk.end(1, 1), NONE);
            due.same("about(0)", desk.about(0), 6000);
        }
    }

    /** cut: "whether n is 0 .. as many as it has". */
    private static void cuts() {
        for (int size : new int[] {0, 1, 2, 20, 5999, 6000}) {
            int[] bytes = filling(size);
            for (int n : new int[] {MIN, -2, -1, 0, 1, size - 1, size, size + 1, 6000, 6001, 6100, MAX}) {
                PackDesk desk = filled(size);
                boolean holds = n >= 0 && n <= size;
                due.same("cut(" + n + ") of " + size, desk.cut(n), holds);
                tapeIs(desk, Arrays.copyOf(bytes, holds ? n : size));
            }
        }
    }

    private static void cutBytesAreGone() {
        PackDesk desk = filled(40);
        desk.cut(3);
        due.same("cut(4) behind cut(3)", desk.cut(4), false);
        due.same("flip(3, 0) behind cut(3)", desk.flip(3, 0), false);
        desk.end(5, 1);
        int[] want = Arrays.copyOf(Arrays.copyOf(filling(40), 3), 8);
        tapeIs(desk, want);
        // A full tape that is cut has room again, and no more than before.
        PackDesk full = filled(6000);
        full.cut(5980);
        due.same("end(21 bytes)", full.end(7, 3), NONE);
        due.same("end(20 bytes)", full.end(10, 2), 6000);
    }

    /** flip: "A bit (0 .. 7) of byte i of the tape is turned: whether there are such." */
    private static void flips() {
        for (int size : new int[] {0, 1, 2, 5999, 6000}) {
            for (int i : new int[] {MIN, -1, 0, 1, size - 1, size, size + 1, 5999, 6000, 6099, 6100, MAX}) {
                for (int bit : new int[] {MIN, -1, 0, 1, 6, 7, 8, 9, 31, 32, 39, MAX}) {
                    PackDesk desk = filled(size);
                    int[] want = filling(size);
                    boolean holds = i >= 0 && i < size && bit >= 0 && bit <= 7;
                    if (holds) {
                        want[i] ^= 1 << bit;
                    }
                    due.same("flip(" + i + ", " + bit + ") of " + size, desk.flip(i, bit), holds);
                    tapeIs(desk, want);
                }
            }
        }
        // Turned twice it is as before; each bit of a nought alone is its power of two.
        for (int bit = 0; bit <= 7; bit++) {
            PackDesk desk = Desks.with(0);
            desk.flip(0, bit);
            tapeIs(desk, 1 << bit);
            desk.flip(0, bit);
            tapeIs(desk, 0);
        }
    }

    /** take: "IllegalStateException: they are more than 6000." Ten STORED blocks take 50 bytes more than they tell. */
    private static void takes() {
        due.same("take() of no output", new PackDesk().take(), 0);
        for (int size : new int[] {5400, 5900, 5948, 5949, 5950, 5951, 5952, 6000}) {
            int[] bytes = Desks.noise(size, 100 + size);
            PackDesk desk = Desks.with(bytes);
            int packed = size + 5 * ((size + 599) / 600);
            due.same("pack()", desk.pack(), packed);
            int[] output = Desks.outputOf(desk);
            due.same("take() of " + packed, Told.answer(desk, PackDesk::take),
                packed <= 6000 ? "" + packed : "IllegalStateException");
            tapeIs(desk, packed <= 6000 ? output : bytes);
            due.same("output behind take()", Desks.outputOf(desk), output);
        }
        // A refused one may hold the next time.
        PackDesk desk = Desks.with(Desks.noise(5951, 7));
        desk.pack();
        due.same("take()", Told.answer(desk, PackDesk::take), "IllegalStateException");
        desk.cut(5950);
        due.same("take(), the output being the same", Told.answer(desk, PackDesk::take), "IllegalStateException");
        desk.pack();
        due.same("take()", Told.answer(desk, PackDesk::take), "6000");
        due.same("end(1, 1) behind it", desk.end(1, 1), NONE);
    }

    /** The most that can be unpacked can be taken. */
    private static void takesWhatIsUnpacked() {
        for (int size : new int[] {0, 1, 5999, 6000}) {
            int[] bytes = filling(size);
            PackDesk desk = Desks.with(bytes);
            desk.pack();
            desk.take();
            due.same("unpack()", desk.unpack(), size);
            due.same("about(1)", desk.about(1), size);
            due.same("take()", desk.take(), size);
            tapeIs(desk, bytes);
        }
    }

    /** CRC: of no bytes, of each single byte, of as many as there can be. */
    private static void crcs() {
        due.same("crc() of none", new PackDesk().crc(), 0);
        PackDesk emptied = filled(300);
        emptied.cut(0);
        due.same("crc() of none left", emptied.crc(), 0);
        for (int value = 0; value < 256; value++) {
            due.same("crc() of " + value, Desks.with(value).crc(), crcOf(new int[] {value}));
        }
        for (int size : new int[] {2, 3, 4, 5, 5999, 6000}) {
            int[] bytes = Desks.noise(size, 500 + size);
            due.same("crc() of " + size, Desks.with(bytes).crc(), crcOf(bytes));
            Arrays.fill(bytes, 255);
            due.same("crc() of " + size + " of 255", Desks.with(bytes).crc(), crcOf(bytes));
        }
    }

    /** output: "Byte i of the output; NONE if there is none." */
    private static void outputs() {
        for (int i : new int[] {MIN, -1, 0, 1, MAX}) {
            due.same("output(" + i + ") of none", new PackDesk().output(i), NONE);
        }
        int[] noise = Desks.noise(6000, 16);
        PackDesk desk = Desks.with(noise);
        due.same("pack()", desk.pack(), 6050);
        due.same("output(6049)", desk.output(6049), noise[5999]);
        for (int i : new int[] {MIN, -1, 6050, 6051, 6099, 6100, MAX}) {
            due.same("output(" + i + ") of 6050", desk.output(i), NONE);
        }
        // The next output is shorter: what stood behind its end is none.
        desk.cut(0);
        due.same("pack()", desk.pack(), 2);
        due.same("output(0)", desk.output(0), 3);
        due.same("output(1)", desk.output(1), 0);
        due.same("output(2)", desk.output(2), NONE);
        desk.take();
        due.same("unpack()", desk.unpack(), 0);
        due.same("output(0) of none", desk.output(0), NONE);
    }

    /** about: "Bytes of the tape (what = 0), of the output (1). NONE for another what." */
    private static void abouts() {
        PackDesk desk = filled(6000);
        due.same("about(0)", desk.about(0), 6000);
        due.same("about(1)", desk.about(1), 0);
        desk.cut(5);
        int packed = desk.pack();
        due.same("about(0)", desk.about(0), 5);
        due.same("about(1)", desk.about(1), packed);
        for (int what : new int[] {MIN, -1, 2, 3, MAX}) {
            due.same("about(" + what + ")", desk.about(what), NONE);
        }
    }

    /** Other bytes than those that are fed as numbered. */
    private static int[] filling(int size) {
        int[] bytes = new int[Math.max(0, size)];
        for (int i = 0; i < bytes.length; i++) {
            bytes[i] = 200 + i % 20;
        }
        return bytes;
    }

    private static PackDesk filled(int size) {
        return Desks.with(filling(size));
    }

    private static void feedNumbered(PackDesk desk) {
        desk.feed(0x01020304, 0x05060708, 0x090a0b0c, 0x0d0e0f10, 0x11121314);
    }

    /** Uses the desk up: the bytes that are ready can be told on a tape alone. */
    private static void readyIs(PackDesk desk, int[] want) {
        desk.cut(0);
        due.same("end(20, 1)", desk.end(20, 1), 20);
        tapeIs(desk, want);
    }

    private static void tapeIs(PackDesk desk, int... want) {
        due.same("bytes of the tape", desk.about(0), want.length);
        due.same("CRC of the tape", desk.crc(), crcOf(want));
    }

    private static int crcOf(int[] bytes) {
        CRC32 crc = new CRC32();
        crc.update(Desks.asBytes(bytes));
        return (int) crc.getValue();
    }
}
