import java.util.function.Consumer;
import java.util.stream.IntStream;

/** All that a desk tells by the calls of its face, so that a desk can be compared with one that had fewer calls. */
final class Told {
    /** A call with its answer; a boolean counts 1 or 0. */
    interface Call {
        int ask(PackDesk desk);
    }

    private Told() {
    }

    /** The number that is answered, or the name of what is thrown. */
    static String answer(PackDesk desk, Call call) {
        try {
            return Integer.toString(call.ask(desk));
        } catch (RuntimeException e) {
            return e.getClass().getSimpleName();
        }
    }

    /** A call that is refused answers so, and leaves the desk like one that has not been asked. */
    static void refused(Due due, String name, Consumer<PackDesk> before, Call call, String want) {
        PackDesk asked = made(before);
        due.same(name, answer(asked, call), want);
        due.same("all that is told behind " + name, all(asked, true), all(made(before), true));
    }

    /** An unpack() that meets a fault changes nothing but what fault() tells. */
    static void faulty(Due due, String name, Consumer<PackDesk> before, int fault, int place) {
        PackDesk asked = made(before);
        due.same("unpack() of " + name, answer(asked, PackDesk::unpack), "IllegalArgumentException");
        due.same("fault(0) of " + name, asked.fault(0), fault);
        due.same("fault(1) of " + name, asked.fault(1), place);
        due.same("all else that is told behind " + name, all(asked, false), all(made(before), false));
    }

    private static PackDesk made(Consumer<PackDesk> before) {
        PackDesk desk = new PackDesk();
        before.accept(desk);
        return desk;
    }

    /** The weights and the bytes that are ready can be told only by calls that use them up: they come last. */
    private static int[] all(PackDesk desk, boolean faultToo) {
        IntStream.Builder told = IntStream.builder();
        told.add(desk.about(0)).add(desk.about(1)).add(desk.crc());
        for (int i = 0; i < desk.about(1); i++) {
            told.add(desk.output(i));
        }
        addPacking(told, desk);
        if (faultToo) {
            told.add(desk.fault(0)).add(desk.fault(1));
        }
        addLengths(told, desk);
        told.add(desk.measure(15));
        addLengths(told, desk);
        desk.cut(0);
        told.add(desk.end(20, 1)).add(desk.crc());
        return told.build().toArray();
    }

    private static void addPacking(IntStream.Builder told, PackDesk desk) {
        told.add(desk.parts()).add(desk.blocks());
        for (int k = 0; k < desk.parts(); k++) {
            told.add(desk.part(k, 0)).add(desk.part(k, 1)).add(desk.part(k, 2));
        }
        for (int k = 0; k < desk.blocks(); k++) {
            for (int what = 0; what < 6; what++) {
                told.add(desk.block(k, what));
            }
            for (int symbol = 0; symbol < 286; symbol++) {
                told.add(desk.code(k, 0, symbol)).add(desk.code(k, 1, symbol)).add(desk.code(k, 2, symbol));
            }
        }
    }

    private static void addLengths(IntStream.Builder told, PackDesk desk) {
        for (int symbol = 0; symbol < 64; symbol++) {
            told.add(desk.length(symbol));
        }
    }
}
