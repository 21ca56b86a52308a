import java.util.Arrays;
import java.util.Random;
import java.util.zip.DataFormatException;
import java.util.zip.Inflater;

/** Streams by chance, most of them sound up to one spoilt place: as the plain form and another unpacker have it. */
public final class StreamsTest {
    private static final Due due = new Due();
    private static final String DONE = "done";
    private static final String ENDS_EARLY = "ends early";
    private static final String REFUSED = "refused";

    public static void main(String[] args) {
        PackDesk desk = new PackDesk();
        int[] met = new int[10];
        for (int round = 0; round < 8000; round++) {
            Random random = new Random(round);
            met[compare(desk, cutOrFlipped(new Stream(random).tape(), random))]++;
        }
        for (int fault = 0; fault < met.length; fault++) {
            due.same("fault " + fault + " is met in 100 or more", met[fault] >= 100, true);
        }
        due.end();
    }

    private static int[] cutOrFlipped(int[] tape, Random random) {
        int size = random.nextInt(4) == 0 ? random.nextInt(tape.length + 1) : tape.length + random.nextInt(3);
        int[] bytes = Arrays.copyOf(tape, Math.min(size, 6000));
        if (random.nextInt(4) == 0 && bytes.length > 0) {
            bytes[random.nextInt(bytes.length)] ^= 1 << random.nextInt(8);
        }
        return bytes;
    }

    private static int compare(PackDesk desk, int[] tape) {
        Plain.Unpacked want = Plain.unpack(tape);
        int[] before = Desks.outputOf(desk);
        Desks.replace(desk, tape);
        boolean thrown = false;
        try {
            due.same("unpack()", desk.unpack(), want.bytes.size());
        } catch (IllegalArgumentException e) {
            thrown = true;
        }
        due.same("unpack() throws", thrown, want.fault != 0);
        due.same("fault(0)", desk.fault(0), want.fault);
        due.same("fault(1)", desk.fault(1), want.place);
        due.same("output", Desks.outputOf(desk), want.fault == 0 ? want.ints() : before);
        if (isJudged(want, tape)) {
            due.same("the other unpacker, fault " + want.fault, judged(tape, want.ints()),
                want.fault == 0 ? DONE : want.fault == 1 ? ENDS_EARLY : REFUSED);
        }
        return want.fault;
    }

    /**
     * The other unpacker knows of no bound of 6000 bytes, and waits for a bit or two more where a repetition has
     * none ahead or there is no distance code at all.
     */
    private static boolean isJudged(Plain.Unpacked want, int[] tape) {
        boolean waits = (want.fault == 6 || want.fault == 7) && want.place == tape.length;
        return want.fault != 9 && !waits;
    }

    private static String judged(int[] tape, int[] want) {
        Inflater inflater = new Inflater(true);
        try {
            inflater.setInput(Desks.asBytes(tape));
            byte[] bytes = new byte[7000];
            int got = inflater.inflate(bytes);
            if (!inflater.finished()) {
                return ENDS_EARLY;
            }
            return Arrays.equals(Desks.asInts(bytes, got), want) ? DONE : "other bytes";
        } catch (DataFormatException e) {
            return REFUSED;
        } finally {
            inflater.end();
        }
    }
}
