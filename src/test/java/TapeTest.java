import java.util.Arrays;
import java.util.Random;
import java.util.zip.CRC32;

/** Promises 1 to 7, 16 and 20: a new object, feed, end, cut, flip, take, crc, output, about. */
public final class TapeTest {
    private static final int NONE = PackDesk.NONE;
    private static final Due due = new Due();

    public static void main(String[] args) {
        promise1NewObject();
        promise2Feed();
        promise3End();
        promise3Full();
        promise4Cut();
        promise5Flip();
        promise6Take();
        promise7Crc();
        promise16Output();
        promise20About();
        due.end();
    }

    private static void promise1NewObject() {
        PackDesk desk = new PackDesk();
        due.same("NONE", PackDesk.NONE, -1);
        due.same("about(0)", desk.about(0), 0);
        due.same("about(1)", desk.about(1), 0);
        due.same("output(0)", desk.output(0), NONE);
        due.same("crc()", desk.crc(), 0);
        due.same("parts()", desk.parts(), 0);
        due.same("blocks()", desk.blocks(), 0);
        due.same("part(0, 0)", desk.part(0, 0), NONE);
        due.same("block(0, 0)", desk.block(0, 0), NONE);
        due.same("code(0, 0, 0)", desk.code(0, 0, 0), NONE);
        due.same("fault(0)", desk.fault(0), 0);
        due.same("fault(1)", desk.fault(1), NONE);
        for (int i = 0; i < 64; i++) {
            due.same("length", desk.length(i), 0);
        }
        due.same("measure(1)", desk.measure(1), 0);
        due.same("take()", desk.take(), 0);
    }

    private static void promise2Feed() {
        PackDesk desk = new PackDesk();
        desk.feed(0x01020304, 0xf5f6f7f8, 0x80000000, -1, 0x7f);
        due.same("end(20, 1)", desk.end(20, 1), 20);
        tapeIs(desk, 1, 2, 3, 4, 0xf5, 0xf6, 0xf7, 0xf8, 128, 0, 0, 0, 255, 255, 255, 255, 0, 0, 0, 127);
        desk.cut(0);
        // Behind an end() that answers a number the bytes are 0, behind one that doesn't they stay.
        due.same("end(3, 1)", desk.end(3, 1), 3);
        tapeIs(desk, 0, 0, 0);
        desk.feed(0x09080706, 0, 0, 0, 0);
        due.same("end(21, 1)", desk.end(21, 1), NONE);
        due.same("end(2, 1)", desk.end(2, 1), 5);
        tapeIs(desk, 0, 0, 0, 9, 8);
        desk.feed(0x09080706, 0, 0, 0, 0);
        due.same("end(0, 1)", desk.end(0, 1), 5);
        due.same("end(1, 1)", desk.end(1, 1), 6);
        tapeIs(desk, 0, 0, 0, 9, 8, 0);
        // A later feed leaves nothing of the one before.
        desk.feed(-1, -1, -1, -1, -1);
        desk.feed(0x05000000, 0, 0, 0, 0);
        desk.cut(0);
        due.same("end(20, 1)", desk.end(20, 1), 20);
        tapeIs(desk, 5, 0, 0, 0, 0, 0, 0, 0, 0, 0, 0, 0, 0, 0, 0, 0, 0, 0, 0, 0);
    }

    private static void promise3End() {
        PackDesk desk = new PackDesk();
        desk.feed(0x01020300, 0, 0, 0, 0);
        int[][] wrong = {{-1, 1}, {21, 1}, {1, 0}, {1, 101}, {0, 0}, {0, 101}, {Integer.MIN_VALUE, 1},
            {Integer.MAX_VALUE, Integer.MAX_VALUE}, {3, -1}, {3, Integer.MIN_VALUE}};
        for (int[] call : wrong) {
            due.same("end" + call[0] + " " + call[1], desk.end(call[0], call[1]), NONE);
        }
        due.same("about(0)", desk.about(0), 0);
        due.same("end(3, 3)", desk.end(3, 3), 9);
        tapeIs(desk, 1, 2, 3, 1, 2, 3, 1, 2, 3);
        due.same("end(0, 100)", desk.end(0, 100), 9);
        due.same("end(1, 100)", desk.end(1, 100), 109);
    }

    private static void promise3Full() {
        PackDesk desk = new PackDesk();
        due.same("end(20, 100)", desk.end(20, 100), 2000);
        due.same("end(20, 100)", desk.end(20, 100), 4000);
        due.same("end(19, 100)", desk.end(19, 100), 5900);
        desk.feed(0x11223344, 0, 0, 0, 0);
        due.same("end(2, 51)", desk.end(2, 51), NONE);
        due.same("end(20, 100)", desk.end(20, 100), NONE);
        due.same("about(0)", desk.about(0), 5900);
        due.same("end(1, 100)", desk.end(1, 100), 6000);
        due.same("end(1, 1)", desk.end(1, 1), NONE);
        due.same("end(0, 1)", desk.end(0, 1), 6000);
        int[] full = new int[6000];
        Arrays.fill(full, 5900, 6000, 0x11);
        tapeIs(desk, full);
        due.same("cut(5999)", desk.cut(5999), true);
        due.same("end(2, 1)", desk.end(2, 1), NONE);
        due.same("end(1, 1)", desk.end(1, 1), 6000);
    }

    private static void promise4Cut() {
        PackDesk desk = Desks.with(1, 2, 3, 4, 5);
        due.same("cut(6)", desk.cut(6), false);
        due.same("cut(-1)", desk.cut(-1), false);
        due.same("cut(min)", desk.cut(Integer.MIN_VALUE), false);
        due.same("cut(max)", desk.cut(Integer.MAX_VALUE), false);
        due.same("about(0)", desk.about(0), 5);
        due.same("cut(5)", desk.cut(5), true);
        tapeIs(desk, 1, 2, 3, 4, 5);
        due.same("cut(2)", desk.cut(2), true);
        tapeIs(desk, 1, 2);
        due.same("cut(3)", desk.cut(3), false);
        Desks.put(desk, 9);
        tapeIs(desk, 1, 2, 9);
        due.same("cut(0)", desk.cut(0), true);
        due.same("cut(0)", desk.cut(0), true);
        due.same("cut(1)", desk.cut(1), false);
        due.same("about(0)", desk.about(0), 0);
    }

    private static void promise5Flip() {
        PackDesk desk = Desks.with(0, 255, 8);
        due.same("flip(0, 0)", desk.flip(0, 0), true);
        due.same("flip(0, 7)", desk.flip(0, 7), true);
        due.same("flip(1, 3)", desk.flip(1, 3), true);
        due.same("flip(2, 3)", desk.flip(2, 3), true);
        tapeIs(desk, 129, 247, 0);
        int[][] wrong = {{3, 0}, {-1, 0}, {0, 8}, {0, -1}, {Integer.MAX_VALUE, 1}, {Integer.MIN_VALUE, 1},
            {1, Integer.MAX_VALUE}, {1, Integer.MIN_VALUE}, {1, 32}, {6000, 0}};
        for (int[] call : wrong) {
            due.same("flip " + call[0] + " " + call[1], desk.flip(call[0], call[1]), false);
        }
        tapeIs(desk, 129, 247, 0);
        desk.cut(2);
        due.same("flip(2, 0)", desk.flip(2, 0), false);
        due.same("flip(0, 0) of none", new PackDesk().flip(0, 0), false);
    }

    private static void promise6Take() {
        PackDesk desk = Desks.with(7, 7, 7);
        due.same("take() of no output", desk.take(), 0);
        due.same("about(0)", desk.about(0), 0);
        Desks.put(desk, 65, 66);
        int packed = desk.pack();
        int[] bytes = Desks.outputOf(desk);
        due.same("take()", desk.take(), packed);
        tapeIs(desk, bytes);
        // The output stays, and is no longer tied to the tape.
        desk.flip(0, 0);
        due.same("output", Desks.outputOf(desk), bytes);
        due.same("take()", desk.take(), packed);

        int[] noise = Desks.noise(6000, 5);
        PackDesk full = Desks.with(noise);
        int size = full.pack();
        due.same("the output is more than 6000", size > 6000, true);
        due.thrown("take()", full::take, IllegalStateException.class);
        due.same("about(0)", full.about(0), 6000);
        tapeIs(full, noise);
        due.same("about(1)", full.about(1), size);

        // The most that can be taken: stored blocks take 5 bytes each and 600 bytes are one.
        PackDesk edge = Desks.with(Desks.noise(5950, 6));
        int edgeSize = edge.pack();
        due.same("10 stored blocks", edgeSize, 6000);
        due.same("take()", edge.take(), 6000);
        PackDesk above = Desks.with(Desks.noise(5951, 6));
        due.same("10 stored blocks", above.pack(), 6001);
        due.thrown("take()", above::take, IllegalStateException.class);
    }

    private static void promise7Crc() {
        due.same("crc() of 123456789", Desks.with(Desks.ofText("123456789")).crc(), 0xcbf43926);
        due.same("crc() of none", new PackDesk().crc(), 0);
        due.same("crc() of 0", Desks.with(0).crc(), 0xd202ef8d);
        Random random = new Random(7);
        for (int round = 0; round < 40; round++) {
            int[] bytes = Desks.noise(random.nextInt(6001), round);
            due.same("crc()", Desks.with(bytes).crc(), crcOf(bytes));
        }
        PackDesk desk = Desks.with(Desks.ofText("1234567890"));
        desk.cut(9);
        due.same("crc() behind cut", desk.crc(), 0xcbf43926);
    }

    private static void promise16Output() {
        PackDesk desk = Desks.with(1, 2, 3);
        due.same("output(0)", desk.output(0), NONE);
        int size = desk.pack();
        due.same("output(size)", desk.output(size), NONE);
        due.same("output(-1)", desk.output(-1), NONE);
        due.same("output(max)", desk.output(Integer.MAX_VALUE), NONE);
        due.same("output(min)", desk.output(Integer.MIN_VALUE), NONE);
        due.same("output", Desks.outputOf(desk), Plain.pack(new int[] {1, 2, 3}).bytes);
        desk.take();
        desk.unpack();
        due.same("output(0)", desk.output(0), 1);
        due.same("output(2)", desk.output(2), 3);
        due.same("output(3), which an older output had", desk.output(3), NONE);
        PackDesk high = Desks.with(255, 128, 254);
        high.pack();
        high.take();
        high.unpack();
        due.same("output(0)", high.output(0), 255);
        due.same("output(1)", high.output(1), 128);
    }

    private static void promise20About() {
        PackDesk desk = Desks.with(1, 2, 3, 4);
        due.same("about(0)", desk.about(0), 4);
        due.same("about(1)", desk.about(1), 0);
        due.same("about(1)", desk.pack(), desk.about(1));
        due.same("about(2)", desk.about(2), NONE);
        due.same("about(-1)", desk.about(-1), NONE);
        due.same("about(max)", desk.about(Integer.MAX_VALUE), NONE);
        due.same("about(min)", desk.about(Integer.MIN_VALUE), NONE);
        due.same("about(0)", desk.about(0), 4);
    }

    /** Nothing tells the tape's bytes as they are: their number and CRC stand for them. */
    private static void tapeIs(PackDesk desk, int... want) {
        due.same("bytes of the tape", desk.about(0), want.length);
        due.same("CRC of the tape", desk.crc(), crcOf(want));
    }

    private static int crcOf(int[] bytes) {
        CRC32 crc = new CRC32();
        crc.update(Desks.asBytes(bytes));
        return (int) crc.getValue();
    }
}
