import java.util.Arrays;
import java.util.List;

/** Tapes to be unpacked, written as texts of bits in their order. */
final class Bits {
    static final String LAST = "1";
    static final String MORE = "0";
    static final String STORED = "00";
    static final String FIXED = "10";
    static final String DYNAMIC = "01";
    /** FIXED's codes. */
    static final String[] LITERAL = Plain.codes(Plain.fixedLiterals());
    static final String[] DISTANCE = Plain.codes(Plain.fixedDistances());
    /** All 19 have a code, so that each row can be told. */
    static final int[] ALPHABET = {4, 4, 4, 4, 4, 4, 4, 4, 4, 4, 4, 4, 4, 5, 5, 5, 5, 5, 5};
    /** The codes of the 19. */
    static final String[] WORD = Plain.codes(ALPHABET);

    private Bits() {
    }

    /** The numbers that begin a DYNAMIC block, and the lengths of the 19. */
    static String alphabet(int literals, int distances) {
        StringBuilder bits = new StringBuilder();
        bits.append(Plain.number(literals - 257, 5)).append(Plain.number(distances - 1, 5)).append(Plain.number(15, 4));
        for (int symbol : Plain.ORDER) {
            bits.append(Plain.number(ALPHABET[symbol], 3));
        }
        return bits.toString();
    }

    /** A DYNAMIC block from its kind on up to its parts. */
    static String dynamic(int[] literals, int[] distances) {
        int[] row = joined(literals, distances);
        StringBuilder bits = new StringBuilder(DYNAMIC + alphabet(literals.length, distances.length));
        List<int[]> steps = Plain.steps(row);
        for (int[] step : steps) {
            bits.append(WORD[step[0]]).append(Plain.number(step[1], step[2]));
        }
        return bits.toString();
    }

    static int[] joined(int[] literals, int[] distances) {
        int[] row = Arrays.copyOf(literals, literals.length + distances.length);
        System.arraycopy(distances, 0, row, literals.length, distances.length);
        return row;
    }

    /** So many lengths, 0 but for those that are named with their symbols. */
    static int[] codes(int size, int... named) {
        int[] lengths = new int[size];
        for (int i = 0; i < named.length; i += 2) {
            lengths[named[i]] = named[i + 1];
        }
        return lengths;
    }

    /** A match by FIXED's codes. */
    static String match(int length, int distance) {
        int[] told = Plain.ofLength(length);
        int[] far = Plain.ofDistance(distance);
        return LITERAL[told[0]] + Plain.number(length - told[1], told[2])
            + DISTANCE[far[0]] + Plain.number(distance - far[1], far[2]);
    }

    /** So many bytes by FIXED's codes, all the same value: one, and matches at distance 1. */
    static String run(int value, int size) {
        StringBuilder bits = new StringBuilder();
        int rest = size;
        while (rest > 0) {
            // Two that are left could not be a match.
            int length = rest == size || rest < 3 ? 1 : rest == 259 || rest == 260 ? 200 : Math.min(258, rest);
            bits.append(length == 1 ? LITERAL[value] : match(length, 1));
            rest -= length;
        }
        return bits.toString();
    }

    /** Noughts up to a byte's end. */
    static String filled(String bits) {
        return bits + "0".repeat((8 - bits.length() % 8) % 8);
    }

    /** A STORED block's length, told twice. */
    static String sizes(int size) {
        return Plain.number(size, 16) + Plain.number(0xffff - size, 16);
    }

    /** Blocks of no bytes that end so many bits (0 .. 7) behind a byte's end. */
    static String ahead(int bits) {
        String none = MORE + FIXED + LITERAL[256];
        String odd = MORE + dynamic(codes(257, 256, 1, 100, 1), new int[1]) + "1";
        if (odd.length() % 2 == 0) {
            throw new AssertionError("the number of bits is not odd");
        }
        String blocks = bits % 2 == 0 ? "" : odd;
        while (blocks.length() % 8 != bits) {
            blocks += none;
        }
        return blocks;
    }
}
