import java.util.ArrayList;
import java.util.HashMap;
import java.util.HashSet;
import java.util.List;
import java.util.Map;
import java.util.Set;

/** The document's terms in their slowest, plainest form (texts of bits, lists of symbols), to compare with. */
final class Plain {
    static final int[] ORDER = {16, 17, 18, 0, 8, 7, 9, 6, 10, 5, 11, 4, 12, 3, 13, 2, 14, 1, 15};

    private Plain() {
    }

    // ---- PARTS

    /** {length, distance} of the match at a place, or null. */
    static int[] match(int[] bytes, int at) {
        int[] best = null;
        for (int distance = 1; distance <= 4096 && distance <= at; distance++) {
            int same = 0;
            while (same < 258 && at + same < bytes.length && bytes[at + same] == bytes[at - distance + same]) {
                same++;
            }
            if (same >= 3 && (best == null || same > best[0])) {
                best = new int[] {same, distance};
            }
        }
        return best;
    }

    static List<int[]> parts(int[] bytes) {
        List<int[]> parts = new ArrayList<>();
        int at = 0;
        while (at < bytes.length) {
            int[] here = match(bytes, at);
            int[] next = here == null ? null : match(bytes, at + 1);
            if (here != null && (next == null || next[0] <= here[0])) {
                parts.add(here);
                at += here[0];
            } else {
                parts.add(new int[] {bytes[at], 0});
                at++;
            }
        }
        return parts;
    }

    // ---- LENGTHS

    private record Item(long sum, boolean alone, List<Integer> symbols) {
    }

    static int[] lengths(int[] weights, int limit) {
        int[] lengths = new int[weights.length];
        List<Item> row = new ArrayList<>();
        for (int i = 0; i < weights.length; i++) {
            if (weights[i] > 0) {
                row.add(new Item(weights[i], true, List.of(i)));
            }
        }
        if (row.size() == 1) {
            lengths[row.get(0).symbols().get(0)] = 1;
        }
        if (row.size() < 2) {
            return lengths;
        }
        row.sort((a, b) -> Long.compare(a.sum(), b.sum()));
        List<Item> symbols = new ArrayList<>(row);
        for (int round = 1; round < limit; round++) {
            List<Item> merged = new ArrayList<>(symbols);
            for (int i = 0; i + 1 < row.size(); i += 2) {
                List<Integer> both = new ArrayList<>(row.get(i).symbols());
                both.addAll(row.get(i + 1).symbols());
                merged.add(new Item(row.get(i).sum() + row.get(i + 1).sum(), false, both));
            }
            // The sort keeps the order of equal ones: symbols stand ahead of pairs.
            merged.sort((a, b) -> Long.compare(a.sum(), b.sum()));
            row = merged;
        }
        for (Item item : row.subList(0, 2 * symbols.size() - 2)) {
            for (int symbol : item.symbols()) {
                lengths[symbol]++;
            }
        }
        return lengths;
    }

    /** Each symbol's code as a text of bits, null without one. */
    static String[] codes(int[] lengths) {
        String[] codes = new String[lengths.length];
        int next = 0;
        for (int length = 1; length <= 15; length++) {
            for (int i = 0; i < lengths.length; i++) {
                if (lengths[i] == length) {
                    StringBuilder text = new StringBuilder();
                    for (int bit = length - 1; bit >= 0; bit--) {
                        text.append(next >> bit & 1);
                    }
                    codes[i] = text.toString();
                    next++;
                }
            }
            next *= 2;
        }
        return codes;
    }

    static int[] fixedLiterals() {
        int[] lengths = new int[288];
        for (int i = 0; i < 288; i++) {
            lengths[i] = i < 144 ? 8 : i < 256 ? 9 : i < 280 ? 7 : 8;
        }
        return lengths;
    }

    static int[] fixedDistances() {
        int[] lengths = new int[32];
        java.util.Arrays.fill(lengths, 5);
        return lengths;
    }

    /** A number's bits, the lowest first. */
    static String number(int value, int bits) {
        StringBuilder text = new StringBuilder();
        for (int i = 0; i < bits; i++) {
            text.append(value >> i & 1);
        }
        return text.toString();
    }

    static int[] bytesOf(String bits) {
        int[] bytes = new int[(bits.length() + 7) / 8];
        for (int i = 0; i < bits.length(); i++) {
            bytes[i / 8] |= (bits.charAt(i) - '0') << i % 8;
        }
        return bytes;
    }

    // ---- The symbols of RFC 1951, counted up as its tables are

    /** {symbol, base, extra bits} of a match's length. */
    static int[] ofLength(int length) {
        if (length == 258) {
            return new int[] {285, 258, 0};
        }
        int base = 3;
        for (int symbol = 257; symbol < 285; symbol++) {
            int extra = symbol < 265 ? 0 : (symbol - 261) / 4;
            if (length < base + (1 << extra)) {
                return new int[] {symbol, base, extra};
            }
            base += 1 << extra;
        }
        throw new AssertionError("no length");
    }

    static int[] ofLengthSymbol(int symbol) {
        int base = 3;
        for (int at = 257; at < symbol; at++) {
            base += 1 << (at < 265 ? 0 : (at - 261) / 4);
        }
        return symbol == 285 ? new int[] {285, 258, 0}
            : new int[] {symbol, base, symbol < 265 ? 0 : (symbol - 261) / 4};
    }

    static int[] ofDistance(int distance) {
        for (int symbol = 0; symbol < 30; symbol++) {
            int[] told = ofDistanceSymbol(symbol);
            if (distance < told[1] + (1 << told[2])) {
                return told;
            }
        }
        throw new AssertionError("no distance");
    }

    static int[] ofDistanceSymbol(int symbol) {
        int base = 1;
        for (int at = 0; at < symbol; at++) {
            base += 1 << (at < 2 ? 0 : at / 2 - 1);
        }
        return new int[] {symbol, base, symbol < 2 ? 0 : symbol / 2 - 1};
    }

    // ---- Packing

    static final class Packed {
        List<int[]> parts;
        /** {way, parts, bytes, bits, FIXED's bits, DYNAMIC's bits} of each block. */
        final List<int[]> blocks = new ArrayList<>();
        /** The lengths of the three codes, null but of a DYNAMIC block. */
        final List<int[][]> codes = new ArrayList<>();
        int[] bytes;
    }

    static Packed pack(int[] tape) {
        Packed packed = new Packed();
        packed.parts = parts(tape);
        StringBuilder bits = new StringBuilder();
        int from = 0;
        int place = 0;
        do {
            int to = Math.min(from + 600, packed.parts.size());
            List<int[]> own = packed.parts.subList(from, to);
            int told = 0;
            for (int[] part : own) {
                told += part[1] == 0 ? 1 : part[0];
            }
            int[][] codes = new int[3][];
            String last = to == packed.parts.size() ? "1" : "0";
            String stored = last + "00";
            while ((bits.length() + stored.length()) % 8 != 0) {
                stored += "0";
            }
            StringBuilder rest = new StringBuilder(number(told, 16) + number(0xffff - told, 16));
            for (int i = 0; i < told; i++) {
                rest.append(number(tape[place + i], 8));
            }
            stored += rest;
            String fixed = last + "10" + data(own, fixedLiterals(), fixedDistances());
            String dynamic = last + "01" + dynamic(own, codes);
            int fewest = Math.min(stored.length(), Math.min(fixed.length(), dynamic.length()));
            int way = stored.length() == fewest ? 0 : fixed.length() == fewest ? 1 : 2;
            bits.append(way == 0 ? stored : way == 1 ? fixed : dynamic);
            packed.blocks.add(new int[] {way, own.size(), told, fewest, fixed.length(), dynamic.length()});
            packed.codes.add(way == 2 ? codes : null);
            from = to;
            place += told;
        } while (from < packed.parts.size());
        packed.bytes = bytesOf(bits.toString());
        return packed;
    }

    static String data(List<int[]> parts, int[] literalLengths, int[] distanceLengths) {
        String[] literals = codes(literalLengths);
        String[] distances = codes(distanceLengths);
        StringBuilder bits = new StringBuilder();
        for (int[] part : parts) {
            if (part[1] == 0) {
                bits.append(literals[part[0]]);
            } else {
                int[] length = ofLength(part[0]);
                int[] distance = ofDistance(part[1]);
                bits.append(literals[length[0]]).append(number(part[0] - length[1], length[2]));
                bits.append(distances[distance[0]]).append(number(part[1] - distance[1], distance[2]));
            }
        }
        return bits.append(literals[256]).toString();
    }

    private static String dynamic(List<int[]> parts, int[][] codes) {
        int[] literals = new int[286];
        int[] distances = new int[30];
        literals[256] = 1;
        for (int[] part : parts) {
            if (part[1] == 0) {
                literals[part[0]]++;
            } else {
                literals[ofLength(part[0])[0]]++;
                distances[ofDistance(part[1])[0]]++;
            }
        }
        codes[0] = lengths(literals, 15);
        codes[1] = lengths(distances, 15);
        boolean none = true;
        for (int length : codes[1]) {
            none &= length == 0;
        }
        if (none) {
            codes[1][0] = 1;
        }
        return head(codes) + data(parts, codes[0], codes[1]);
    }

    private static String head(int[][] codes) {
        int literals = 286;
        while (literals > 257 && codes[0][literals - 1] == 0) {
            literals--;
        }
        int distances = 30;
        while (distances > 1 && codes[1][distances - 1] == 0) {
            distances--;
        }
        int[] row = new int[literals + distances];
        System.arraycopy(codes[0], 0, row, 0, literals);
        System.arraycopy(codes[1], 0, row, literals, distances);
        List<int[]> steps = steps(row);
        int[] comings = new int[19];
        for (int[] step : steps) {
            comings[step[0]]++;
        }
        codes[2] = lengths(comings, 7);
        int told = 19;
        while (told > 4 && codes[2][ORDER[told - 1]] == 0) {
            told--;
        }
        StringBuilder bits = new StringBuilder();
        bits.append(number(literals - 257, 5)).append(number(distances - 1, 5)).append(number(told - 4, 4));
        for (int i = 0; i < told; i++) {
            bits.append(number(codes[2][ORDER[i]], 3));
        }
        String[] words = codes(codes[2]);
        for (int[] step : steps) {
            bits.append(words[step[0]]).append(number(step[1], step[2]));
        }
        return bits.toString();
    }

    /** {symbol, what its extra bits say, how many they are}, one each. */
    static List<int[]> steps(int[] row) {
        List<int[]> steps = new ArrayList<>();
        int at = 0;
        while (at < row.length) {
            int noughts = 0;
            while (noughts < 138 && at + noughts < row.length && row[at + noughts] == 0) {
                noughts++;
            }
            int like = 0;
            while (at > 0 && like < 6 && at + like < row.length && row[at + like] == row[at - 1]) {
                like++;
            }
            if (noughts >= 11) {
                steps.add(new int[] {18, noughts - 11, 7});
                at += noughts;
            } else if (noughts >= 3) {
                steps.add(new int[] {17, noughts - 3, 3});
                at += noughts;
            } else if (like >= 3) {
                steps.add(new int[] {16, like - 3, 2});
                at += like;
            } else {
                steps.add(new int[] {row[at], 0, 0});
                at++;
            }
        }
        return steps;
    }

    // ---- Unpacking

    static final class Unpacked {
        int fault;
        int place = -1;
        final List<Integer> bytes = new ArrayList<>();

        int[] ints() {
            int[] values = new int[bytes.size()];
            for (int i = 0; i < values.length; i++) {
                values[i] = bytes.get(i);
            }
            return values;
        }
    }

    private static final class Fault extends RuntimeException {
        private static final long serialVersionUID = 1;
        final int number;

        Fault(int number) {
            this.number = number;
        }
    }

    static Unpacked unpack(int[] tape) {
        Unpacked unpacked = new Unpacked();
        Reader reader = new Reader(tape, unpacked.bytes);
        try {
            boolean last;
            do {
                last = reader.block();
            } while (!last);
        } catch (Fault e) {
            unpacked.fault = e.number;
            unpacked.place = reader.touched.size();
        }
        return unpacked;
    }

    private static final class Reader {
        private final StringBuilder bits = new StringBuilder();
        private final List<Integer> bytes;
        final Set<Integer> touched = new HashSet<>();
        private int at;

        Reader(int[] tape, List<Integer> bytes) {
            this.bytes = bytes;
            for (int value : tape) {
                bits.append(Plain.number(value, 8));
            }
        }

        boolean block() {
            boolean last = number(1) == 1;
            switch (number(2)) {
                case 0 -> stored();
                case 1 -> data(table(fixedLiterals()), table(fixedDistances()));
                case 2 -> dynamic();
                default -> throw new Fault(2);
            }
            return last;
        }

        private void stored() {
            while (at % 8 != 0) {
                at++;
            }
            int size = number(16);
            if (size + number(16) != 0xffff) {
                throw new Fault(3);
            }
            for (int i = 0; i < size; i++) {
                put(number(8));
            }
        }

        private void dynamic() {
            int literals = 257 + number(5);
            int distances = 1 + number(5);
            int told = 4 + number(4);
            if (literals > 286 || distances > 30) {
                throw new Fault(4);
            }
            int[] alphabet = new int[19];
            for (int i = 0; i < told; i++) {
                alphabet[ORDER[i]] = number(3);
            }
            if (!whole(alphabet)) {
                throw new Fault(5);
            }
            List<Integer> row = row(table(alphabet), literals + distances);
            int[] literalLengths = new int[literals];
            int[] distanceLengths = new int[distances];
            int used = 0;
            int sum = 0;
            for (int i = 0; i < literals; i++) {
                literalLengths[i] = row.get(i);
            }
            for (int i = 0; i < distances; i++) {
                distanceLengths[i] = row.get(literals + i);
                used += distanceLengths[i] > 0 ? 1 : 0;
                sum += distanceLengths[i];
            }
            boolean few = used == 0 || used == 1 && sum == 1;
            if (!whole(literalLengths) || literalLengths[256] == 0 || !few && !whole(distanceLengths)) {
                throw new Fault(5);
            }
            data(table(literalLengths), table(distanceLengths));
        }

        private List<Integer> row(Map<String, Integer> alphabet, int size) {
            List<Integer> row = new ArrayList<>();
            while (row.size() < size) {
                int symbol = symbol(alphabet);
                int value = symbol < 16 ? symbol : 0;
                int times = 1;
                if (symbol == 16) {
                    if (row.isEmpty()) {
                        throw new Fault(6);
                    }
                    value = row.get(row.size() - 1);
                    times = 3 + number(2);
                } else if (symbol == 17) {
                    times = 3 + number(3);
                } else if (symbol == 18) {
                    times = 11 + number(7);
                }
                if (row.size() + times > size) {
                    throw new Fault(6);
                }
                for (int i = 0; i < times; i++) {
                    row.add(value);
                }
            }
            return row;
        }

        private void data(Map<String, Integer> literals, Map<String, Integer> distances) {
            int symbol = symbol(literals);
            while (symbol != 256) {
                if (symbol > 285) {
                    throw new Fault(7);
                }
                if (symbol < 256) {
                    put(symbol);
                } else {
                    int[] told = ofLengthSymbol(symbol);
                    int length = told[1] + number(told[2]);
                    int far = symbol(distances);
                    if (far > 29) {
                        throw new Fault(7);
                    }
                    told = ofDistanceSymbol(far);
                    int distance = told[1] + number(told[2]);
                    if (distance > bytes.size()) {
                        throw new Fault(8);
                    }
                    for (int i = 0; i < length; i++) {
                        put(bytes.get(bytes.size() - distance));
                    }
                }
                symbol = symbol(literals);
            }
        }

        private void put(int value) {
            if (bytes.size() == 6000) {
                throw new Fault(9);
            }
            bytes.add(value);
        }

        private int number(int count) {
            int value = 0;
            for (int i = 0; i < count; i++) {
                value += bit() << i;
            }
            return value;
        }

        private int bit() {
            if (at >= bits.length()) {
                throw new Fault(1);
            }
            touched.add(at / 8);
            at++;
            return bits.charAt(at - 1) - '0';
        }

        private int symbol(Map<String, Integer> table) {
            StringBuilder text = new StringBuilder();
            while (table.containsKey(text.toString())) {
                int symbol = table.get(text.toString());
                if (symbol >= 0) {
                    return symbol;
                }
                text.append(bit());
            }
            throw new Fault(7);
        }

        /** Each code with its symbol, and each beginning of a code with -1. */
        private static Map<String, Integer> table(int[] lengths) {
            Map<String, Integer> table = new HashMap<>();
            String[] codes = codes(lengths);
            for (int i = 0; i < codes.length; i++) {
                if (codes[i] != null) {
                    table.put(codes[i], i);
                    for (int n = 0; n < codes[i].length(); n++) {
                        table.putIfAbsent(codes[i].substring(0, n), -1);
                    }
                }
            }
            return table;
        }

        private static boolean whole(int[] lengths) {
            double sum = 0;
            for (int length : lengths) {
                sum += length == 0 ? 0 : 1.0 / (1 << length);
            }
            return sum == 1.0;
        }
    }
}
