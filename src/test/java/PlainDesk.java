import java.util.Arrays;
import java.util.List;

/** The desk of the document in its plainest form: what each call must answer, whatever calls came ahead of it. */
final class PlainDesk {
    private static final int NONE = -1;

    private int[] tape = {};
    private int[] output = {};
    private int[] ready = new int[20];
    private Plain.Packed packed;
    private int[] packedTape;
    private int fault;
    private int place = NONE;
    private final int[] weights = new int[64];
    private int[] lengths = new int[64];

    void feed(int a, int b, int c, int d, int e) {
        int[] words = {a, b, c, d, e};
        for (int i = 0; i < 20; i++) {
            ready[i] = words[i / 4] >>> 24 - 8 * (i % 4) & 255;
        }
    }

    int end(int n, int times) {
        if (n < 0 || n > 20 || times < 1 || times > 100 || tape.length + n * times > 6000) {
            return NONE;
        }
        int[] longer = Arrays.copyOf(tape, tape.length + n * times);
        for (int i = 0; i < n * times; i++) {
            longer[tape.length + i] = ready[i % n];
        }
        tape = longer;
        ready = new int[20];
        return tape.length;
    }

    boolean cut(int n) {
        boolean holds = n >= 0 && n <= tape.length;
        tape = holds ? Arrays.copyOf(tape, n) : tape;
        return holds;
    }

    boolean flip(int i, int bit) {
        boolean holds = i >= 0 && i < tape.length && bit >= 0 && bit <= 7;
        if (holds) {
            tape[i] ^= 1 << bit;
        }
        return holds;
    }

    int take() {
        if (output.length > 6000) {
            throw new IllegalStateException();
        }
        tape = output.clone();
        return tape.length;
    }

    /** Bit by bit, as the polynomial is told. */
    int crc() {
        int rest = 0xffffffff;
        for (int value : tape) {
            rest ^= value;
            for (int bit = 0; bit < 8; bit++) {
                rest = rest >>> 1 ^ ((rest & 1) == 1 ? 0xedb88320 : 0);
            }
        }
        return rest ^ 0xffffffff;
    }

    int pack() {
        if (packed == null || !Arrays.equals(packedTape, tape)) {
            packed = Plain.pack(tape);
            packedTape = tape.clone();
        }
        output = packed.bytes.clone();
        return output.length;
    }

    int parts() {
        return packed == null ? 0 : packed.parts.size();
    }

    int part(int k, int what) {
        if (k < 0 || k >= parts() || what < 0 || what > 2) {
            return NONE;
        }
        return what == 2 ? k / 600 : packed.parts.get(k)[what];
    }

    int blocks() {
        return packed == null ? 0 : packed.blocks.size();
    }

    int block(int k, int what) {
        return k < 0 || k >= blocks() || what < 0 || what > 5 ? NONE : packed.blocks.get(k)[what];
    }

    int code(int k, int which, int symbol) {
        if (k < 0 || k >= blocks() || packed.codes.get(k) == null || which < 0 || which > 2) {
            return NONE;
        }
        int[] code = packed.codes.get(k)[which];
        return symbol < 0 || symbol >= code.length ? NONE : code[symbol];
    }

    int unpack() {
        Plain.Unpacked unpacked = Plain.unpack(tape);
        fault = unpacked.fault;
        place = unpacked.place;
        if (fault != 0) {
            throw new IllegalArgumentException();
        }
        output = unpacked.ints();
        return output.length;
    }

    int fault(int what) {
        return what == 0 ? fault : what == 1 ? place : NONE;
    }

    int output(int i) {
        return i < 0 || i >= output.length ? NONE : output[i];
    }

    void weigh(int symbol, int weight) {
        if (symbol < 0 || symbol > 63) {
            throw new IndexOutOfBoundsException();
        }
        if (weight < 0 || weight > 1000000) {
            throw new IllegalArgumentException();
        }
        weights[symbol] = weight;
    }

    int measure(int limit) {
        if (limit < 1 || limit > 15) {
            throw new IllegalArgumentException();
        }
        List<Integer> coming = Arrays.stream(weights).filter(weight -> weight > 0).boxed().toList();
        if (coming.size() > Math.pow(2, limit)) {
            throw new IllegalStateException();
        }
        lengths = Plain.lengths(weights, limit);
        int sum = 0;
        for (int i = 0; i < 64; i++) {
            sum += weights[i] * lengths[i];
        }
        return sum;
    }

    int length(int symbol) {
        return symbol < 0 || symbol > 63 ? NONE : lengths[symbol];
    }

    int about(int what) {
        return what == 0 ? tape.length : what == 1 ? output.length : NONE;
    }
}
