import java.util.HashSet;
import java.util.Random;
import java.util.Set;

/** Puts bytes on a desk's tape and reads its output, by the calls of the face alone. */
final class Desks {
    static final String TEXT = "The tape becomes the output's bytes; the desk packs what stands on the tape, the "
        + "longest match first, the nearest of several; what it packs it tells, and what it tells it packs. A block is "
        + "written in the way that takes the fewest bits, and of several ways that take as many the first is taken.";

    private Desks() {
    }

    static PackDesk with(int... bytes) {
        PackDesk desk = new PackDesk();
        put(desk, bytes);
        return desk;
    }

    /** Puts the bytes behind those of the tape; a chunk that comes again at once goes by one end(). */
    static void put(PackDesk desk, int... bytes) {
        int at = 0;
        while (at < bytes.length) {
            int n = Math.min(20, bytes.length - at);
            int times = 1;
            while (times < 100 && repeats(bytes, at, n, times)) {
                times++;
            }
            int[] words = new int[5];
            for (int i = 0; i < n; i++) {
                words[i / 4] |= bytes[at + i] << 24 - 8 * (i % 4);
            }
            desk.feed(words[0], words[1], words[2], words[3], words[4]);
            if (desk.end(n, times) == PackDesk.NONE) {
                throw new AssertionError("the tape took no more");
            }
            at += n * times;
        }
    }

    static void replace(PackDesk desk, int... bytes) {
        desk.cut(0);
        put(desk, bytes);
    }

    static int[] outputOf(PackDesk desk) {
        int[] bytes = new int[desk.about(1)];
        for (int i = 0; i < bytes.length; i++) {
            bytes[i] = desk.output(i);
        }
        return bytes;
    }

    static byte[] asBytes(int[] values) {
        byte[] bytes = new byte[values.length];
        for (int i = 0; i < values.length; i++) {
            bytes[i] = (byte) values[i];
        }
        return bytes;
    }

    static int[] asInts(byte[] bytes, int size) {
        int[] values = new int[size];
        for (int i = 0; i < size; i++) {
            values[i] = bytes[i] & 255;
        }
        return values;
    }

    static int[] ofText(String text) {
        int[] values = new int[text.length()];
        for (int i = 0; i < values.length; i++) {
            values[i] = text.charAt(i) & 255;
        }
        return values;
    }

    /** Noise in which no three bytes come again, so that every byte is a part. */
    static int[] noise(int size, long seed) {
        Random random = new Random(seed);
        Set<Integer> seen = new HashSet<>();
        int[] bytes = new int[size];
        for (int i = 0; i < size; i++) {
            do {
                bytes[i] = random.nextInt(256);
            } while (i > 1 && !seen.add(bytes[i - 2] << 16 | bytes[i - 1] << 8 | bytes[i]));
        }
        return bytes;
    }

    private static boolean repeats(int[] bytes, int at, int n, int times) {
        int from = at + n * times;
        if (from + n > bytes.length) {
            return false;
        }
        for (int i = 0; i < n; i++) {
            if (bytes[from + i] != bytes[at + i]) {
                return false;
            }
        }
        return true;
    }
}
