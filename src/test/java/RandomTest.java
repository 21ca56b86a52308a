import java.util.Arrays;
import java.util.Random;
import java.util.zip.DataFormatException;
import java.util.zip.Inflater;

/** Tapes and calls by chance: all answers as the plain form's, and nothing thrown but what the document names. */
public final class RandomTest {
    private static final Due due = new Due();

    public static void main(String[] args) {
        packings();
        spoiltTapes();
        madeUpHeads();
        wildCalls();
        due.end();
    }

    /** One desk for all, so that nothing of a packing is left for the next. */
    private static void packings() {
        PackDesk desk = new PackDesk();
        for (int round = 0; round < 150; round++) {
            int[] bytes = tape(new Random(round));
            Desks.replace(desk, bytes);
            PackTest.compare(due, desk, bytes);
            if (desk.about(1) <= 6000) {
                desk.take();
                due.same("unpack()", desk.unpack(), bytes.length);
                due.same("output", Desks.outputOf(desk), bytes);
            }
        }
    }

    private static void spoiltTapes() {
        PackDesk desk = new PackDesk();
        for (int round = 0; round < 4000; round++) {
            Random random = new Random(round);
            int[] bytes = Arrays.copyOf(tape(random), random.nextInt(900));
            Desks.replace(desk, bytes);
            desk.pack();
            int[] packed = Desks.outputOf(desk);
            for (int n = random.nextInt(4); n >= 0 && packed.length > 0; n--) {
                int at = random.nextInt(random.nextBoolean() ? packed.length : Math.min(packed.length, 20));
                packed[at] ^= 1 << random.nextInt(8);
            }
            compare(desk, packed);
        }
    }

    /** Bits by chance behind the numbers that begin a DYNAMIC block: most are faulty, in every way. */
    private static void madeUpHeads() {
        PackDesk desk = new PackDesk();
        int[] met = new int[10];
        for (int round = 0; round < 20000; round++) {
            Random random = new Random(round);
            StringBuilder bits = new StringBuilder(random.nextBoolean() ? "1" : "0");
            if (random.nextInt(4) == 0) {
                bits.append("10");
            } else {
                bits.append("01");
                bits.append(Plain.number(random.nextInt(30), 5)).append(Plain.number(random.nextInt(30), 5));
                bits.append(alphabet(random));
            }
            int more = random.nextInt(3000);
            for (int i = 0; i < more; i++) {
                bits.append(random.nextInt(2));
            }
            met[compare(desk, Plain.bytesOf(bits.toString()))]++;
        }
        for (int fault : new int[] {1, 2, 5, 6, 7, 8}) {
            due.same("fault " + fault + " is met", met[fault] > 0, true);
        }
    }

    /** The lengths of a whole code, some of the 19 each of some length. */
    private static String alphabet(Random random) {
        int[] weights = new int[19];
        for (int i = 0; i < 19; i++) {
            weights[i] = random.nextInt(3) > 0 ? 1 + random.nextInt(30) : 0;
        }
        weights[1] = 9;
        weights[2] = 9;
        int[] lengths = Plain.lengths(weights, 7);
        StringBuilder bits = new StringBuilder("1111");
        for (int symbol : Plain.ORDER) {
            bits.append(Plain.number(lengths[symbol], 3));
        }
        return bits.toString();
    }

    private static int compare(PackDesk desk, int[] packed) {
        Plain.Unpacked want = Plain.unpack(packed);
        Desks.replace(desk, packed);
        int[] before = Desks.outputOf(desk);
        int got = -1;
        try {
            got = desk.unpack();
        } catch (IllegalArgumentException e) {
            due.same("output behind a fault", Desks.outputOf(desk), before);
        }
        due.same("fault(0)", desk.fault(0), want.fault);
        due.same("fault(1)", desk.fault(1), want.place);
        if (want.fault == 0) {
            due.same("unpack()", got, want.bytes.size());
            due.same("output", Desks.outputOf(desk), want.ints());
        } else {
            due.same("unpack() threw", got, -1);
        }
        // Another unpacker knows of no bound of 6000 bytes, and lets 256 alone have a code of one bit.
        if (want.fault != 9 && want.fault != 5) {
            due.same("the other unpacker agrees", inflates(packed, want.ints()), want.fault == 0);
        }
        return want.fault;
    }

    private static boolean inflates(int[] packed, int[] want) {
        Inflater inflater = new Inflater(true);
        try {
            inflater.setInput(Desks.asBytes(packed));
            byte[] bytes = new byte[7000];
            int got = inflater.inflate(bytes);
            return inflater.finished() && Arrays.equals(Desks.asInts(bytes, got), want);
        } catch (DataFormatException e) {
            return false;
        } finally {
            inflater.end();
        }
    }

    private static void wildCalls() {
        for (int round = 0; round < 400; round++) {
            Random random = new Random(round);
            PackDesk desk = new PackDesk();
            for (int n = 0; n < 512; n++) {
                int call = random.nextInt(19);
                try {
                    wildCall(desk, call, random);
                } catch (IllegalStateException e) {
                    due.same("call " + call + " throws IllegalStateException", call == 4 || call == 16, true);
                    due.same("its own class", e.getClass() == IllegalStateException.class, true);
                } catch (IllegalArgumentException e) {
                    due.same("call " + call + " throws IllegalArgumentException", call >= 12 && call <= 16, true);
                    due.same("its own class", e.getClass() == IllegalArgumentException.class, true);
                } catch (IndexOutOfBoundsException e) {
                    due.same("call " + call + " throws IndexOutOfBoundsException", call, 15);
                    due.same("its own class", e.getClass() == IndexOutOfBoundsException.class, true);
                }
            }
        }
    }

    private static int wildCall(PackDesk desk, int call, Random random) {
        int a = wild(random);
        int b = wild(random);
        int c = wild(random);
        switch (call) {
            case 0:
                desk.feed(random.nextInt(), a, b, c, random.nextInt());
                return 0;
            case 1:
                return desk.end(random.nextInt(22), random.nextInt(104) - 2);
            case 2:
                return desk.cut(a) ? 1 : 0;
            case 3:
                return desk.flip(a, b % 9) ? 1 : 0;
            case 4:
                return desk.take();
            case 5:
                return desk.crc();
            case 6:
                return desk.pack();
            case 7:
                return desk.parts();
            case 8:
                return desk.part(a, b % 4);
            case 9:
                return desk.blocks();
            case 10:
                return desk.block(a, b % 7);
            case 11:
                return desk.code(a % 11, b % 4, c);
            case 12:
                return desk.unpack();
            case 13:
                return desk.fault(a) + desk.length(b);
            case 14:
                return desk.output(a);
            case 15:
                desk.weigh(a, b);
                return 0;
            case 16:
                return desk.measure(a % 17);
            case 17:
                return desk.length(a);
            default:
                return desk.about(a);
        }
    }

    private static int wild(Random random) {
        switch (random.nextInt(5)) {
            case 0:
                return random.nextInt();
            case 1:
                return random.nextInt(6200) - 50;
            case 2:
                return random.nextInt(2) == 0 ? Integer.MAX_VALUE : Integer.MIN_VALUE;
            default:
                return random.nextInt(70) - 3;
        }
    }

    /** Noise, few values, rows that come again with changes, runs: by turns. */
    private static int[] tape(Random random) {
        int size = random.nextInt(4) == 0 ? random.nextInt(6001) : random.nextInt(1500);
        int[] bytes = new int[size];
        int at = 0;
        while (at < size) {
            int stretch = Math.min(size - at, 1 + random.nextInt(700));
            int values = 1 + random.nextInt(1 + random.nextInt(256));
            int low = random.nextInt(257 - values);
            int back = 1 + random.nextInt(1 + random.nextInt(Math.max(1, at)));
            int change = 1 + random.nextInt(90);
            boolean again = at > 0 && random.nextInt(3) > 0;
            for (int i = 0; i < stretch; i++, at++) {
                boolean like = again && back <= at && random.nextInt(change) > 0;
                bytes[at] = like ? bytes[at - back] : low + random.nextInt(values);
            }
        }
        return bytes;
    }
}
