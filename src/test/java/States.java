/** States of a desk in which all that it holds differs from what it held at first. */
final class States {
    private States() {
    }

    static void fresh(PackDesk desk) {
        due(desk.about(0) == 0);
    }

    /** A DYNAMIC packing, a fault, lengths that are older than the weights, other bytes on the tape and ready. */
    static void busy(PackDesk desk) {
        for (int i = 0; i < 10; i++) {
            desk.weigh(i * 7 % 64, i + 1);
        }
        desk.measure(4);
        desk.weigh(3, 77);
        Desks.put(desk, Desks.ofText(Desks.TEXT));
        desk.pack();
        due(desk.block(0, 0) == 2);
        desk.take();
        desk.flip(0, 2);
        desk.flip(0, 1);
        due(Told.answer(desk, PackDesk::unpack).equals("IllegalArgumentException"));
        Desks.replace(desk, Desks.noise(70, 70));
        desk.feed(0x01020304, 0x05060708, 0x090a0b0c, 0x0d0e0f10, 0x11121314);
    }

    /** No byte more can come, the output is too long to be taken, every symbol has a weight. */
    static void full(PackDesk desk) {
        for (int i = 0; i < 64; i++) {
            desk.weigh(i, 1 + i * i);
        }
        desk.measure(6);
        Desks.put(desk, Desks.noise(6000, 60));
        desk.pack();
        due(desk.about(1) == 6050);
        desk.feed(-1, -2, -3, -4, -5);
    }

    private static void due(boolean holds) {
        if (!holds) {
            throw new AssertionError("the state is not what it should be");
        }
    }
}
