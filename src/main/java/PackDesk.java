import java.util.Arrays;

/** A desk that packs bytes as DEFLATE does (RFC 1951), each choice told, and unpacks what is packed. */
public final class PackDesk {
    public static final int NONE = -1;

    private static final int MOST_TAPE = 6000;
    private static final int MOST_OUTPUT = 6100;
    private static final int MOST_TAPE_BITS = 8 * MOST_TAPE;
    private static final int READY = 20;
    private static final int MOST_TIMES = 100;
    private static final int SCALE = 64;
    private static final int MOST_WEIGHT = 1000000;

    private static final int STORED = 0;
    private static final int FIXED = 1;
    private static final int DYNAMIC = 2;
    private static final int HEADER_BITS = 3;
    private static final int STORED_LENGTH_BITS = 16;

    private static final int MOST_SYMBOLS = 288;
    private static final int LITERALS = 286;
    private static final int DISTANCES = 30;
    private static final int ALPHABET = 19;
    private static final int BLOCK_END = 256;
    private static final int FIRST_LENGTH = 257;
    private static final int MOST_LENGTH = 15;
    private static final int MOST_ALPHABET_LENGTH = 7;
    private static final int FEWEST_ALPHABET_TOLD = 4;
    private static final int MOST_ROW = LITERALS + DISTANCES;

    private static final int REPEAT_LATEST = 16;
    private static final int FEW_NOUGHTS = 17;
    private static final int MANY_NOUGHTS = 18;

    private static final int[] LENGTH_BASE = {
        3, 4, 5, 6, 7, 8, 9, 10, 11, 13, 15, 17, 19, 23, 27, 31, 35, 43, 51, 59, 67, 83, 99, 115, 131, 163, 195, 227,
        258};
    private static final int[] LENGTH_EXTRA = {
        0, 0, 0, 0, 0, 0, 0, 0, 1, 1, 1, 1, 2, 2, 2, 2, 3, 3, 3, 3, 4, 4, 4, 4, 5, 5, 5, 5, 0};
    private static final int[] DISTANCE_BASE = {
        1, 2, 3, 4, 5, 7, 9, 13, 17, 25, 33, 49, 65, 97, 129, 193, 257, 385, 513, 769, 1025, 1537, 2049, 3073, 4097,
        6145, 8193, 12289, 16385, 24577};
    private static final int[] DISTANCE_EXTRA = {
        0, 0, 0, 0, 1, 1, 2, 2, 3, 3, 4, 4, 5, 5, 6, 6, 7, 7, 8, 8, 9, 9, 10, 10, 11, 11, 12, 12, 13, 13};
    private static final int[] ALPHABET_ORDER = {16, 17, 18, 0, 8, 7, 9, 6, 10, 5, 11, 4, 12, 3, 13, 2, 14, 1, 15};
    /** Of 16, 17 and 18: the fewest that they repeat, and the bits that tell how many more. */
    private static final int[] REPEAT_BASE = {3, 3, 11};
    private static final int[] REPEAT_EXTRA = {2, 3, 7};

    /** The CRC's remainders of half a byte: a byte then takes two steps, not eight. */
    private static final int[] CRC_HALVES = {
        0x00000000, 0x1db71064, 0x3b6e20c8, 0x26d930ac, 0x76dc4190, 0x6b6b51f4, 0x4db26158, 0x5005713c,
        0xedb88320, 0xf00f9344, 0xd6d6a3e8, 0xcb61b38c, 0x9b64c2b0, 0x86d3d2d4, 0xa00ae278, 0xbdbdf21c};

    private final Row tape = new Row();
    private final Row output = new Row();
    private final int[] ready = new int[READY];
    private final int[] weights = new int[SCALE];
    private final int[] scaleLengths = new int[SCALE];
    private final LengthMaker maker;
    private final Packer packer;
    private final Unpacker unpacker;

    public PackDesk() {
        // One set of working rows serves packing and unpacking: they never run at once.
        LengthMaker sharedMaker = new LengthMaker();
        CodeSet codes = new CodeSet();
        Row made = new Row();
        maker = sharedMaker;
        packer = new Packer(codes, made, sharedMaker);
        unpacker = new Unpacker(codes, made);
    }

    public void feed(int a, int b, int c, int d, int e) {
        putReady(0, a);
        putReady(4, b);
        putReady(8, c);
        putReady(12, d);
        putReady(16, e);
    }

    public int end(int n, int times) {
        if (n < 0 || n > READY || times < 1 || times > MOST_TIMES || tape.size + n * times > MOST_TAPE) {
            return NONE;
        }
        for (int round = 0; round < times; round++) {
            for (int i = 0; i < n; i++) {
                tape.add(ready[i]);
            }
        }
        Arrays.fill(ready, 0);
        return tape.size;
    }

    public boolean cut(int n) {
        if (n < 0 || n > tape.size) {
            return false;
        }
        tape.size = n;
        return true;
    }

    public boolean flip(int i, int bit) {
        if (!tape.has(i) || bit < 0 || bit > 7) {
            return false;
        }
        tape.bytes[i] ^= 1 << bit;
        return true;
    }

    public int take() throws IllegalStateException {
        if (output.size > MOST_TAPE) {
            throw new IllegalStateException("the output has more bytes than a tape can have");
        }
        tape.become(output);
        return tape.size;
    }

    public int crc() {
        int rest = -1;
        for (int i = 0; i < tape.size; i++) {
            rest ^= tape.bytes[i];
            rest = (rest >>> 4) ^ CRC_HALVES[rest & 15];
            rest = (rest >>> 4) ^ CRC_HALVES[rest & 15];
        }
        return ~rest;
    }

    public int pack() {
        packer.run(tape);
        output.become(packer.made);
        return output.size;
    }

    public int parts() {
        return packer.partList.count;
    }

    public int part(int k, int what) {
        PartList list = packer.partList;
        if (!list.has(k)) {
            return NONE;
        }
        switch (what) {
            case 0:
                return list.amount(k);
            case 1:
                return list.distance(k);
            case 2:
                return k / BlockBook.MOST_PARTS;
            default:
                return NONE;
        }
    }

    public int blocks() {
        return packer.book.count;
    }

    public int block(int k, int what) {
        return packer.book.fact(k, what);
    }

    public int code(int k, int which, int symbol) {
        return packer.book.codeLength(k, which, symbol);
    }

    public int unpack() throws IllegalArgumentException {
        unpacker.begin();
        for (int n = 0; n <= MOST_TAPE_BITS && !unpacker.isDone; n++) {
            unpacker.readBlock(tape);
        }
        output.become(unpacker.made);
        return output.size;
    }

    public int fault(int what) {
        switch (what) {
            case 0:
                return unpacker.faultMet;
            case 1:
                return unpacker.faultPlace;
            default:
                return NONE;
        }
    }

    public int output(int i) {
        return output.has(i) ? output.bytes[i] : NONE;
    }

    public void weigh(int symbol, int weight) throws IndexOutOfBoundsException, IllegalArgumentException {
        if (symbol < 0 || symbol >= SCALE) {
            throw new IndexOutOfBoundsException("the symbol is not 0 .. 63");
        }
        if (weight < 0 || weight > MOST_WEIGHT) {
            throw new IllegalArgumentException("the weight is not 0 .. 1000000");
        }
        weights[symbol] = weight;
    }

    public int measure(int limit) throws IllegalArgumentException, IllegalStateException {
        if (limit < 1 || limit > MOST_LENGTH) {
            throw new IllegalArgumentException("the limit is not 1 .. 15");
        }
        if (weighedSymbols() > 1 << limit) {
            throw new IllegalStateException("more symbols have weights than codes of that length are");
        }
        maker.make(weights, SCALE, limit, scaleLengths);
        return weightedSum(weights, scaleLengths, SCALE);
    }

    public int length(int symbol) {
        return symbol >= 0 && symbol < SCALE ? scaleLengths[symbol] : NONE;
    }

    public int about(int what) {
        switch (what) {
            case 0:
                return tape.size;
            case 1:
                return output.size;
            default:
                return NONE;
        }
    }

    private void putReady(int from, int word) {
        for (int i = 0; i < 4 && from + i < READY; i++) {
            ready[from + i] = (word >>> (24 - 8 * i)) & 255;
        }
    }

    private int weighedSymbols() {
        int weighed = 0;
        for (int i = 0; i < SCALE; i++) {
            if (weights[i] > 0) {
                weighed++;
            }
        }
        return weighed;
    }

    private static int weightedSum(int[] weights, int[] lengths, int symbols) {
        int sum = 0;
        for (int i = 0; i < symbols && i < weights.length && i < lengths.length; i++) {
            sum += weights[i] * lengths[i];
        }
        return sum;
    }

    /** The last of the rising bases that is not above the value (the tables have at most 32 entries). */
    private static int kindOf(int[] bases, int value) {
        int kind = 0;
        for (int step = 16; step > 0; step >>= 1) {
            if (kind + step < bases.length && bases[kind + step] <= value) {
                kind += step;
            }
        }
        return kind;
    }

    /** Bytes, 0 .. 255 each, as many as size tells. */
    private static final class Row {
        final int[] bytes = new int[MOST_OUTPUT];
        int size;

        boolean has(int i) {
            return i >= 0 && i < size && i < bytes.length;
        }

        void add(int value) {
            if (size >= 0 && size < bytes.length) {
                bytes[size] = value;
                size++;
            }
        }

        void become(Row other) {
            size = Math.max(0, Math.min(other.size, MOST_OUTPUT));
            System.arraycopy(other.bytes, 0, bytes, 0, size);
        }
    }

    /** The parts of the latest packing: bytes, or matches with their distances. */
    private static final class PartList {
        private static final int AMOUNT_BITS = 9;
        private static final int AMOUNT_MASK = 511;

        /** Length or byte in the low bits, the distance above them. */
        private final int[] entries = new int[MOST_TAPE];
        int count;

        boolean has(int k) {
            return k >= 0 && k < count && k < entries.length;
        }

        void add(int amount, int distance) {
            if (count >= 0 && count < entries.length) {
                entries[count] = (distance << AMOUNT_BITS) | (amount & AMOUNT_MASK);
                count++;
            }
        }

        int amount(int k) {
            return has(k) ? entries[k] & AMOUNT_MASK : 0;
        }

        int distance(int k) {
            return has(k) ? entries[k] >> AMOUNT_BITS : 0;
        }
    }

    /** Finds the longest row of bytes that also begins ahead of a place, of several the nearest. */
    private static final class Matcher {
        private static final int SPOT_BITS = 12;
        private static final int SPOTS = 1 << SPOT_BITS;
        private static final int REACH = 4096;
        private static final int SHORTEST = 3;
        private static final int LONGEST = 258;

        private final int[] latest = new int[SPOTS];
        /** By place: the nearest place ahead whose first three bytes fall on the same spot. */
        private final int[] earlier = new int[MOST_TAPE];
        /** Of the latest match that search found. */
        int distance;

        void chain(Row row) {
            Arrays.fill(latest, NONE);
            for (int i = 0; i + SHORTEST <= row.size && i < earlier.length; i++) {
                int spot = spotOf(row.bytes, i);
                earlier[i] = latest[spot];
                latest[spot] = i;
            }
        }

        /** The length of the match at a place if it is longer than that, else 0. */
        int search(Row row, int place, int longerThan) {
            int most = Math.min(LONGEST, row.size - place);
            int best = Math.max(longerThan, SHORTEST - 1);
            if (place < 0 || place >= earlier.length || best >= most) {
                return 0;
            }
            boolean found = false;
            int from = earlier[place];
            for (int tries = 0; tries < REACH && from >= 0 && place - from <= REACH && best < most; tries++) {
                // A row that differs where the best one ended can't be longer.
                if (row.bytes[from + best] == row.bytes[place + best]) {
                    int same = sameBytes(row.bytes, from, place, most);
                    if (same > best) {
                        best = same;
                        distance = place - from;
                        found = true;
                    }
                }
                from = earlier[from];
            }
            return found ? best : 0;
        }

        /** How many bytes are the same at both places; the later is followed by so many at least. */
        private static int sameBytes(int[] bytes, int from, int place, int most) {
            int same = 0;
            while (same < most && bytes[from + same] == bytes[place + same]) {
                same++;
            }
            return same;
        }

        private static int spotOf(int[] bytes, int i) {
            if (i < 0 || i + SHORTEST > bytes.length) {
                return 0;
            }
            int key = bytes[i] | (bytes[i + 1] << 8) | (bytes[i + 2] << 16);
            return (key * 0x9e3779b1) >>> (32 - SPOT_BITS);
        }
    }

    /** LENGTHS: how long each symbol's code is, by its weight and with a limit. */
    private static final class LengthMaker {
        private static final int SYMBOL_BITS = 9;
        private static final int SYMBOL_MASK = 511;
        private static final int[] GAPS = {132, 57, 23, 10, 4, 1};

        /** The symbols that come (the row S): the weight above, the number in the low bits. */
        private final int[] keys = new int[MOST_SYMBOLS];
        /** The row R of the latest round; sums may pass an int, since a symbol comes in many pairs. */
        private final long[] sums = new long[2 * MOST_SYMBOLS];
        private final long[] pairs = new long[MOST_SYMBOLS];
        /** Bit r at place i: whether R has a symbol by itself there, after round r. */
        private final int[] alone = new int[2 * MOST_SYMBOLS];

        void make(int[] weights, int symbols, int limit, int[] lengths) {
            Arrays.fill(lengths, 0);
            int coming = gather(weights, Math.min(symbols, lengths.length));
            for (int gap : GAPS) {
                sortByGap(coming, gap);
            }
            if (coming == 1) {
                lengthen(lengths, 0);
            } else if (coming > 1) {
                mergeRounds(coming, limit);
                countDown(coming, limit, lengths);
            }
        }

        private int gather(int[] weights, int symbols) {
            int coming = 0;
            for (int i = 0; i < symbols && i < weights.length && coming < keys.length; i++) {
                if (weights[i] > 0) {
                    keys[coming] = (weights[i] << SYMBOL_BITS) | i;
                    coming++;
                }
            }
            return coming;
        }

        private void sortByGap(int coming, int gap) {
            for (int i = gap; i < coming; i++) {
                int key = keys[i];
                int to = i;
                while (to >= gap && keys[to - gap] > key) {
                    keys[to] = keys[to - gap];
                    to -= gap;
                }
                keys[to] = key;
            }
        }

        private void mergeRounds(int coming, int limit) {
            Arrays.fill(alone, 0);
            for (int i = 0; i < coming; i++) {
                sums[i] = keys[i] >> SYMBOL_BITS;
                alone[i] = 1;
            }
            int size = coming;
            for (int round = 1; round < limit; round++) {
                size = mergeRound(coming, size, round);
            }
        }

        /** Merges the pairs of R with S: how many R then has. */
        private int mergeRound(int coming, int size, int round) {
            int pairCount = Math.min(size / 2, pairs.length);
            for (int i = 0; i < pairCount; i++) {
                pairs[i] = sums[2 * i] + sums[2 * i + 1];
            }
            int merged = Math.min(coming + pairCount, sums.length);
            int symbol = 0;
            int pair = 0;
            for (int i = 0; i < merged; i++) {
                if (pair >= pairCount || (symbol < coming && (keys[symbol] >> SYMBOL_BITS) <= pairs[pair])) {
                    sums[i] = keys[symbol] >> SYMBOL_BITS;
                    alone[i] |= 1 << round;
                    symbol++;
                } else {
                    sums[i] = pairs[pair];
                    pair++;
                }
            }
            return merged;
        }

        /** The first pairs of R hold the first of the R before: so a count of the taken tells them all. */
        private void countDown(int coming, int limit, int[] lengths) {
            int taken = 2 * coming - 2;
            for (int round = limit - 1; round >= 0; round--) {
                int symbols = 0;
                for (int i = 0; i < taken && i < alone.length; i++) {
                    if (((alone[i] >> round) & 1) == 1) {
                        lengthen(lengths, symbols);
                        symbols++;
                    }
                }
                taken = 2 * (taken - symbols);
            }
        }

        private void lengthen(int[] lengths, int k) {
            int symbol = k >= 0 && k < keys.length ? keys[k] & SYMBOL_MASK : NONE;
            if (symbol >= 0 && symbol < lengths.length) {
                lengths[symbol]++;
            }
        }
    }

    /** A code as RFC 1951 tells it by lengths, both to write (words) and to read (counts, inTurn). */
    private static final class Code {
        final int[] lengths = new int[MOST_SYMBOLS];
        /** By symbol, the bit that goes first is the lowest. */
        final int[] words = new int[MOST_SYMBOLS];
        /** By length: how many codes. */
        final int[] counts = new int[MOST_LENGTH + 1];
        /** The symbols by their codes. */
        final int[] inTurn = new int[MOST_SYMBOLS];
        int coded;
        private final int[] nextWords = new int[MOST_LENGTH + 1];
        private final int[] nextPlaces = new int[MOST_LENGTH + 1];

        void takeLengths(int[] row, int from, int symbols) {
            Arrays.fill(lengths, 0);
            for (int i = 0; i < symbols && i < lengths.length; i++) {
                if (from + i >= 0 && from + i < row.length) {
                    lengths[i] = row[from + i];
                }
            }
        }

        /** Makes the code that the lengths tell. */
        void settle() {
            Arrays.fill(counts, 0);
            for (int i = 0; i < lengths.length; i++) {
                if (isCoded(i)) {
                    counts[lengths[i]]++;
                }
            }
            int word = 0;
            int place = 0;
            for (int length = 1; length <= MOST_LENGTH; length++) {
                word = (word + counts[length - 1]) << 1;
                nextWords[length] = word;
                nextPlaces[length] = place;
                place += counts[length];
            }
            coded = place;
            for (int i = 0; i < lengths.length; i++) {
                if (isCoded(i)) {
                    settleSymbol(i, lengths[i]);
                }
            }
        }

        boolean isWhole() {
            int left = 1;
            for (int length = 1; length <= MOST_LENGTH && left >= 0; length++) {
                left = 2 * left - counts[length];
            }
            return left == 0;
        }

        boolean isOneBitAtMost() {
            return coded == 0 || (coded == 1 && counts[1] == 1);
        }

        private boolean isCoded(int symbol) {
            return lengths[symbol] > 0 && lengths[symbol] <= MOST_LENGTH;
        }

        private void settleSymbol(int symbol, int length) {
            int place = nextPlaces[length];
            words[symbol] = turned(nextWords[length], length);
            nextWords[length]++;
            if (place >= 0 && place < inTurn.length) {
                inTurn[place] = symbol;
                nextPlaces[length]++;
            }
        }

        private static int turned(int word, int length) {
            int turned = 0;
            for (int i = 0; i < length; i++) {
                turned = (turned << 1) | ((word >> i) & 1);
            }
            return turned;
        }
    }

    /** The codes that blocks are written with and read by. */
    private static final class CodeSet {
        final Code fixedLiterals = new Code();
        final Code fixedDistances = new Code();
        final Code literals = new Code();
        final Code distances = new Code();
        final Code alphabet = new Code();

        CodeSet() {
            Arrays.fill(fixedLiterals.lengths, 8);
            for (int i = 144; i < 256; i++) {
                fixedLiterals.lengths[i] = 9;
            }
            for (int i = 256; i < 280; i++) {
                fixedLiterals.lengths[i] = 7;
            }
            fixedLiterals.settle();
            for (int i = 0; i < 32; i++) {
                fixedDistances.lengths[i] = 5;
            }
            fixedDistances.settle();
        }
    }

    /** Puts bits to a row of bytes, from each byte's lowest bit on. */
    private static final class BitWriter {
        private final Row row;
        private int held;
        private int heldBits;

        BitWriter(Row target) {
            row = target;
        }

        void begin() {
            row.size = 0;
            held = 0;
            heldBits = 0;
        }

        /** How many bits are missing to a byte's end, behind so many more. */
        int missingBehind(int more) {
            return -(heldBits + more) & 7;
        }

        /** At most 16 bits, of a value that has no more. */
        void putBits(int value, int count) {
            held |= value << heldBits;
            heldBits += count;
            for (; heldBits >= 8; heldBits -= 8) {
                row.add(held & 255);
                held >>>= 8;
            }
        }

        void fillByte() {
            putBits(0, missingBehind(0));
        }

        void putSymbol(Code code, int symbol) {
            if (symbol >= 0 && symbol < MOST_SYMBOLS) {
                putBits(code.words[symbol], code.lengths[symbol]);
            }
        }
    }

    /** What begins a DYNAMIC block: both codes' lengths as one row, told by the alphabet 0 .. 18. */
    private static final class CodeHead {
        private static final int COUNTS_BITS = 14;
        private static final int TOLD_LENGTH_BITS = 3;
        private static final int MOST_NOUGHTS = 138;
        private static final int MOST_FEW_NOUGHTS = 10;
        private static final int MOST_REPEATS = 6;
        private static final int FEWEST_REPEATS = 3;

        private final int[] row = new int[MOST_ROW];
        private int literals;
        private int distances;
        /** The alphabet's symbols that tell the row, and what their extra bits say. */
        private final int[] symbols = new int[MOST_ROW];
        private final int[] extras = new int[MOST_ROW];
        private int symbolCount;
        private final int[] comings = new int[ALPHABET];
        private int orderTold;

        /** Makes the head for the set's literals and distances, its alphabet too: how many bits it takes. */
        int plan(CodeSet codes, LengthMaker maker) {
            literals = toldCount(codes.literals.lengths, LITERALS, FIRST_LENGTH);
            distances = toldCount(codes.distances.lengths, DISTANCES, 1);
            System.arraycopy(codes.literals.lengths, 0, row, 0, literals);
            System.arraycopy(codes.distances.lengths, 0, row, literals, distances);
            tellRow(literals + distances);
            maker.make(comings, ALPHABET, MOST_ALPHABET_LENGTH, codes.alphabet.lengths);
            codes.alphabet.settle();
            orderTold = toldOrder(codes.alphabet.lengths);
            return COUNTS_BITS + TOLD_LENGTH_BITS * orderTold + extraBits()
                + weightedSum(comings, codes.alphabet.lengths, ALPHABET);
        }

        void write(Code alphabet, BitWriter writer) {
            writer.putBits(literals - FIRST_LENGTH, 5);
            writer.putBits(distances - 1, 5);
            writer.putBits(orderTold - FEWEST_ALPHABET_TOLD, 4);
            for (int i = 0; i < orderTold && i < ALPHABET; i++) {
                writer.putBits(alphabet.lengths[ALPHABET_ORDER[i]], TOLD_LENGTH_BITS);
            }
            for (int i = 0; i < symbolCount; i++) {
                writer.putSymbol(alphabet, symbols[i]);
                writer.putBits(extras[i], extraBitsOf(symbols[i]));
            }
        }

        private static int toldCount(int[] lengths, int most, int fewest) {
            int told = Math.min(most, lengths.length);
            while (told > fewest && lengths[told - 1] == 0) {
                told--;
            }
            return told;
        }

        private static int toldOrder(int[] lengths) {
            int told = ALPHABET;
            while (told > FEWEST_ALPHABET_TOLD && lengths[ALPHABET_ORDER[told - 1]] == 0) {
                told--;
            }
            return told;
        }

        private void tellRow(int size) {
            Arrays.fill(comings, 0);
            symbolCount = 0;
            int told = 0;
            for (int i = 0; i < size && told < size; i++) {
                told += tellAt(told, size);
            }
        }

        /** Tells what stands from here on by one symbol: how many of the row that are. */
        private int tellAt(int at, int size) {
            int noughts = sameFrom(at, size, 0, MOST_NOUGHTS);
            if (noughts >= FEWEST_REPEATS) {
                int symbol = noughts <= MOST_FEW_NOUGHTS ? FEW_NOUGHTS : MANY_NOUGHTS;
                addSymbol(symbol, noughts - REPEAT_BASE[symbol - REPEAT_LATEST]);
                return noughts;
            }
            int repeats = at > 0 ? sameFrom(at, size, row[at - 1], MOST_REPEATS) : 0;
            if (repeats >= FEWEST_REPEATS) {
                addSymbol(REPEAT_LATEST, repeats - FEWEST_REPEATS);
                return repeats;
            }
            addSymbol(row[at], 0);
            return 1;
        }

        private int sameFrom(int at, int size, int value, int most) {
            int same = 0;
            while (same < most && at + same < size && row[at + same] == value) {
                same++;
            }
            return same;
        }

        private void addSymbol(int symbol, int extra) {
            if (symbol >= 0 && symbol < ALPHABET && symbolCount < MOST_ROW) {
                symbols[symbolCount] = symbol;
                extras[symbolCount] = extra;
                symbolCount++;
                comings[symbol]++;
            }
        }

        private int extraBits() {
            int bits = 0;
            for (int symbol = REPEAT_LATEST; symbol <= MANY_NOUGHTS; symbol++) {
                bits += comings[symbol] * extraBitsOf(symbol);
            }
            return bits;
        }

        private static int extraBitsOf(int symbol) {
            int k = symbol - REPEAT_LATEST;
            return k >= 0 && k < REPEAT_EXTRA.length ? REPEAT_EXTRA[k] : 0;
        }
    }

    /** What is told of the blocks of the latest packing. */
    private static final class BlockBook {
        static final int MOST_PARTS = 600;
        static final int WAY = 0;
        static final int PARTS = 1;
        static final int BYTES = 2;
        static final int BITS = 3;
        static final int FIXED_BITS = 4;
        static final int DYNAMIC_BITS = 5;

        private static final int FACTS = 6;
        private static final int MOST_BLOCKS = MOST_TAPE / MOST_PARTS;
        private static final int CODED = LITERALS + DISTANCES + ALPHABET;
        /** Of each code: where its lengths begin among a block's, and how many symbols it has. */
        private static final int[] CODE_FROM = {0, 286, 316};
        private static final int[] CODE_SYMBOLS = {286, 30, 19};

        private final int[] facts = new int[MOST_BLOCKS * FACTS];
        private final int[] codeLengths = new int[MOST_BLOCKS * CODED];
        int count;

        void begin(int partCount) {
            count = Math.max(1, Math.min(MOST_BLOCKS, (partCount + MOST_PARTS - 1) / MOST_PARTS));
        }

        void note(int k, int what, int value) {
            if (has(k) && what >= 0 && what < FACTS) {
                facts[k * FACTS + what] = value;
            }
        }

        int fact(int k, int what) {
            return has(k) && what >= 0 && what < FACTS ? facts[k * FACTS + what] : NONE;
        }

        void keepCodes(int k, CodeSet codes) {
            if (has(k)) {
                int from = k * CODED;
                System.arraycopy(codes.literals.lengths, 0, codeLengths, from, LITERALS);
                System.arraycopy(codes.distances.lengths, 0, codeLengths, from + LITERALS, DISTANCES);
                System.arraycopy(codes.alphabet.lengths, 0, codeLengths, from + LITERALS + DISTANCES, ALPHABET);
            }
        }

        int codeLength(int k, int which, int symbol) {
            if (fact(k, WAY) != DYNAMIC || which < 0 || which >= CODE_FROM.length) {
                return NONE;
            }
            if (symbol < 0 || symbol >= CODE_SYMBOLS[which]) {
                return NONE;
            }
            return codeLengths[k * CODED + CODE_FROM[which] + symbol];
        }

        private boolean has(int k) {
            return k >= 0 && k < count && k < MOST_BLOCKS;
        }
    }

    /** Packs a tape: its parts, their blocks, and each block in the way that takes the fewest bits. */
    private static final class Packer {
        final Row made;
        final PartList partList = new PartList();
        final BlockBook book = new BlockBook();
        private final CodeSet codes;
        private final LengthMaker maker;
        private final BitWriter writer;
        private final Matcher matcher = new Matcher();
        private final CodeHead head = new CodeHead();
        /** Of the block at hand: how often each symbol comes, and what else its parts take and tell. */
        private final int[] literalComings = new int[LITERALS];
        private final int[] distanceComings = new int[DISTANCES];
        private int extraBits;
        private int bytesTold;

        Packer(CodeSet sharedCodes, Row target, LengthMaker sharedMaker) {
            codes = sharedCodes;
            made = target;
            maker = sharedMaker;
            writer = new BitWriter(target);
        }

        void run(Row tape) {
            split(tape);
            writer.begin();
            book.begin(partList.count);
            int place = 0;
            for (int k = 0; k < book.count; k++) {
                int from = k * BlockBook.MOST_PARTS;
                int to = Math.min(from + BlockBook.MOST_PARTS, partList.count);
                countBlock(from, to);
                book.note(k, BlockBook.PARTS, to - from);
                weighWays(k);
                writer.putBits(k == book.count - 1 ? 1 : 0, 1);
                writeBlock(k, from, to, tape, place);
                place += bytesTold;
            }
            writer.fillByte();
        }

        private void split(Row tape) {
            matcher.chain(tape);
            partList.count = 0;
            int place = 0;
            int length = matcher.search(tape, 0, 0);
            int distance = matcher.distance;
            for (int i = 0; i < tape.size && place < tape.size; i++) {
                int next = matcher.search(tape, place + 1, length);
                if (length == 0 || next > 0) {
                    partList.add(tape.bytes[place], 0);
                    place++;
                    length = next;
                } else {
                    partList.add(length, distance);
                    place += length;
                    length = matcher.search(tape, place, 0);
                }
                distance = matcher.distance;
            }
        }

        private void countBlock(int from, int to) {
            Arrays.fill(literalComings, 0);
            Arrays.fill(distanceComings, 0);
            literalComings[BLOCK_END] = 1;
            extraBits = 0;
            bytesTold = 0;
            for (int i = from; i < to; i++) {
                countPart(partList.amount(i), partList.distance(i));
            }
        }

        private void countPart(int amount, int distance) {
            if (distance > 0) {
                int kind = kindOf(LENGTH_BASE, amount);
                int far = kindOf(DISTANCE_BASE, distance);
                literalComings[FIRST_LENGTH + kind]++;
                distanceComings[far]++;
                extraBits += LENGTH_EXTRA[kind] + DISTANCE_EXTRA[far];
                bytesTold += amount;
            } else if (amount >= 0 && amount < BLOCK_END) {
                literalComings[amount]++;
                bytesTold++;
            }
        }

        /** Makes the block's own codes, and notes what each way would take and which takes the fewest. */
        private void weighWays(int k) {
            maker.make(literalComings, LITERALS, MOST_LENGTH, codes.literals.lengths);
            maker.make(distanceComings, DISTANCES, MOST_LENGTH, codes.distances.lengths);
            int distanceBits = weightedSum(distanceComings, codes.distances.lengths, DISTANCES);
            if (distanceBits == 0) {
                codes.distances.lengths[0] = 1;
            }
            int headBits = head.plan(codes, maker);
            int dynamic = HEADER_BITS + headBits + extraBits + distanceBits
                + weightedSum(literalComings, codes.literals.lengths, LITERALS);
            int fixed = HEADER_BITS + extraBits
                + weightedSum(literalComings, codes.fixedLiterals.lengths, LITERALS)
                + weightedSum(distanceComings, codes.fixedDistances.lengths, DISTANCES);
            int stored = HEADER_BITS + writer.missingBehind(HEADER_BITS) + 2 * STORED_LENGTH_BITS + 8 * bytesTold;
            int fewest = Math.min(stored, Math.min(fixed, dynamic));
            book.note(k, BlockBook.WAY, fewest == stored ? STORED : fewest == fixed ? FIXED : DYNAMIC);
            book.note(k, BlockBook.BYTES, bytesTold);
            book.note(k, BlockBook.BITS, fewest);
            book.note(k, BlockBook.FIXED_BITS, fixed);
            book.note(k, BlockBook.DYNAMIC_BITS, dynamic);
        }

        /** Writes the block behind the bit that tells whether it is the last. */
        private void writeBlock(int k, int from, int to, Row tape, int place) {
            int way = book.fact(k, BlockBook.WAY);
            writer.putBits(way, 2);
            if (way == STORED) {
                writeStored(tape, place);
            } else if (way == FIXED) {
                writeParts(from, to, codes.fixedLiterals, codes.fixedDistances);
            } else {
                book.keepCodes(k, codes);
                codes.literals.settle();
                codes.distances.settle();
                head.write(codes.alphabet, writer);
                writeParts(from, to, codes.literals, codes.distances);
            }
        }

        private void writeStored(Row tape, int place) {
            writer.fillByte();
            writer.putBits(bytesTold, STORED_LENGTH_BITS);
            writer.putBits(~bytesTold & 0xffff, STORED_LENGTH_BITS);
            for (int i = place; i < place + bytesTold && tape.has(i); i++) {
                writer.putBits(tape.bytes[i], 8);
            }
        }

        private void writeParts(int from, int to, Code literals, Code distances) {
            for (int i = from; i < to; i++) {
                int amount = partList.amount(i);
                int distance = partList.distance(i);
                if (distance > 0) {
                    int kind = kindOf(LENGTH_BASE, amount);
                    int far = kindOf(DISTANCE_BASE, distance);
                    writer.putSymbol(literals, FIRST_LENGTH + kind);
                    writer.putBits(amount - LENGTH_BASE[kind], LENGTH_EXTRA[kind]);
                    writer.putSymbol(distances, far);
                    writer.putBits(distance - DISTANCE_BASE[far], DISTANCE_EXTRA[far]);
                } else {
                    writer.putSymbol(literals, amount);
                }
            }
            writer.putSymbol(literals, BLOCK_END);
        }
    }

    /** Unpacks a tape block by block, up to the first fault. */
    private static final class Unpacker {
        private static final int ENDS_EARLY = 1;
        private static final int KIND_THREE = 2;
        private static final int STORED_DISAGREES = 3;
        private static final int TOO_MANY_CODES = 4;
        private static final int NOT_WHOLE = 5;
        private static final int WRONG_REPEAT = 6;
        private static final int NO_CODE = 7;
        private static final int TOO_FAR = 8;
        private static final int TOO_LONG = 9;

        final Row made;
        boolean isDone;
        int faultMet;
        int faultPlace = NONE;
        private final CodeSet codes;
        private final int[] row = new int[MOST_ROW];
        /** How many bits have been taken, with those that were left up to a byte's end. */
        private int position;

        Unpacker(CodeSet sharedCodes, Row target) {
            codes = sharedCodes;
            made = target;
        }

        void begin() {
            made.size = 0;
            isDone = false;
            faultMet = 0;
            faultPlace = NONE;
            position = 0;
        }

        void readBlock(Row tape) {
            isDone = takeBits(tape, 1) == 1;
            int way = takeBits(tape, 2);
            if (way == STORED) {
                readStored(tape);
            } else if (way == FIXED) {
                readParts(tape, codes.fixedLiterals, codes.fixedDistances);
            } else if (way == DYNAMIC) {
                readHead(tape);
                readParts(tape, codes.literals, codes.distances);
            } else {
                fail(KIND_THREE);
            }
        }

        private void readStored(Row tape) {
            position = (position + 7) & ~7;
            int size = takeBits(tape, STORED_LENGTH_BITS);
            int turned = takeBits(tape, STORED_LENGTH_BITS);
            if ((size ^ turned) != 0xffff) {
                fail(STORED_DISAGREES);
            }
            for (int i = 0; i < size; i++) {
                putByte(takeBits(tape, 8));
            }
        }

        private void readHead(Row tape) {
            int literals = FIRST_LENGTH + takeBits(tape, 5);
            int distances = 1 + takeBits(tape, 5);
            int told = FEWEST_ALPHABET_TOLD + takeBits(tape, 4);
            if (literals > LITERALS || distances > DISTANCES) {
                fail(TOO_MANY_CODES);
            }
            readAlphabet(tape, told);
            readRow(tape, literals + distances);
            codes.literals.takeLengths(row, 0, literals);
            codes.literals.settle();
            codes.distances.takeLengths(row, literals, distances);
            codes.distances.settle();
            if (!codes.literals.isWhole() || codes.literals.lengths[BLOCK_END] == 0) {
                fail(NOT_WHOLE);
            }
            if (!codes.distances.isWhole() && !codes.distances.isOneBitAtMost()) {
                fail(NOT_WHOLE);
            }
        }

        private void readAlphabet(Row tape, int told) {
            Arrays.fill(codes.alphabet.lengths, 0);
            for (int i = 0; i < told && i < ALPHABET; i++) {
                codes.alphabet.lengths[ALPHABET_ORDER[i]] = takeBits(tape, 3);
            }
            codes.alphabet.settle();
            if (!codes.alphabet.isWhole()) {
                fail(NOT_WHOLE);
            }
        }

        private void readRow(Row tape, int size) {
            int at = 0;
            for (int n = 0; n < size && at < size; n++) {
                int symbol = takeSymbol(tape, codes.alphabet);
                if (symbol == REPEAT_LATEST && at == 0) {
                    fail(WRONG_REPEAT);
                }
                int value = symbol;
                int times = 1;
                int k = symbol - REPEAT_LATEST;
                if (k >= 0 && k < REPEAT_BASE.length) {
                    value = k == 0 && at > 0 ? row[at - 1] : 0;
                    times = REPEAT_BASE[k] + takeBits(tape, REPEAT_EXTRA[k]);
                }
                if (at + times > size) {
                    fail(WRONG_REPEAT);
                }
                for (int i = 0; i < times && at < row.length; i++) {
                    row[at] = value;
                    at++;
                }
            }
        }

        private void readParts(Row tape, Code literals, Code distances) {
            for (int n = 0; n <= MOST_TAPE_BITS; n++) {
                int symbol = takeSymbol(tape, literals);
                if (symbol == BLOCK_END) {
                    return;
                }
                if (symbol < BLOCK_END) {
                    putByte(symbol);
                } else {
                    readMatch(tape, symbol - FIRST_LENGTH, distances);
                }
            }
        }

        private void readMatch(Row tape, int kind, Code distances) {
            if (kind < 0 || kind >= LENGTH_BASE.length) {
                fail(NO_CODE);
            }
            int length = LENGTH_BASE[kind] + takeBits(tape, LENGTH_EXTRA[kind]);
            int far = takeSymbol(tape, distances);
            if (far < 0 || far >= DISTANCE_BASE.length) {
                fail(NO_CODE);
            }
            int distance = DISTANCE_BASE[far] + takeBits(tape, DISTANCE_EXTRA[far]);
            if (distance > made.size) {
                fail(TOO_FAR);
            }
            for (int i = 0; i < length; i++) {
                putByte(made.bytes[made.size - distance]);
            }
        }

        private void putByte(int value) {
            if (made.size >= MOST_TAPE) {
                fail(TOO_LONG);
            }
            made.add(value);
        }

        /** Takes bits one by one and stops where no code can follow: a fault's place hangs on it. */
        private int takeSymbol(Row tape, Code code) {
            int word = 0;
            int first = 0;
            int place = 0;
            for (int length = 1; length <= MOST_LENGTH && place < code.coded; length++) {
                word = (word << 1) | takeBits(tape, 1);
                int count = code.counts[length];
                int at = place + word - first;
                if (word - first < count && at >= 0 && at < MOST_SYMBOLS) {
                    return code.inTurn[at];
                }
                place += count;
                first = (first + count) << 1;
            }
            fail(NO_CODE);
            return NONE;
        }

        private int takeBits(Row tape, int count) {
            int value = 0;
            for (int i = 0; i < count; i++) {
                int at = position >> 3;
                if (!tape.has(at)) {
                    fail(ENDS_EARLY);
                }
                value |= ((tape.bytes[at] >> (position & 7)) & 1) << i;
                position++;
            }
            return value;
        }

        private void fail(int number) {
            faultMet = number;
            faultPlace = (position + 7) >> 3;
            throw new IllegalArgumentException("the bytes can't be unpacked");
        }
    }
}
