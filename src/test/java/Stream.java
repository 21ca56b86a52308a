import java.util.ArrayList;
import java.util.List;
import java.util.Random;

/** Bits to be unpacked, made by chance: blocks of all kinds, sound but for a few that are spoilt in one place. */
final class Stream {
    private final Random random;
    private final StringBuilder bits = new StringBuilder();
    /** How many bytes the bits tell so far, if nothing is spoilt. */
    private int told;

    Stream(Random random) {
        this.random = random;
    }

    int[] tape() {
        int blocks = 1 + random.nextInt(4);
        for (int k = 0; k < blocks; k++) {
            addBlock(k == blocks - 1 ? Bits.LAST : Bits.MORE);
        }
        fill();
        return Plain.bytesOf(bits.toString());
    }

    private void addBlock(String last) {
        bits.append(last);
        int kind = rarely(40) ? 3 : random.nextInt(3);
        bits.append(Plain.number(kind, 2));
        if (kind == 0) {
            addStored();
        } else if (kind == 1) {
            addParts(Bits.LITERAL, Bits.DISTANCE);
        } else if (kind == 2) {
            addDynamic();
        }
    }

    private void addStored() {
        fill();
        int size = random.nextInt(2) * random.nextInt(300);
        int turned = 0xffff - size;
        bits.append(Plain.number(size, 16));
        bits.append(Plain.number(rarely(20) ? turned ^ 1 << random.nextInt(16) : turned, 16));
        for (int i = rarely(20) ? size / 2 : 0; i < size; i++) {
            bits.append(Plain.number(random.nextInt(256), 8));
        }
        told += size;
    }

    private void addDynamic() {
        int[] literals = whole(257 + random.nextInt(30), 256);
        int[] distances = distances(1 + random.nextInt(30));
        String[] words = Plain.codes(literals);
        String[] farWords = Plain.codes(distances);
        spoilLength(literals, 40);
        spoilLength(distances, 40);
        int spoilt = rarely(30) ? 1 + random.nextInt(3) : 0;
        int literalCount = (spoilt & 1) != 0 ? 287 + random.nextInt(2) : literals.length;
        int distanceCount = (spoilt & 2) != 0 ? 31 + random.nextInt(2) : distances.length;
        addHead(literals, distances, literalCount, distanceCount);
        addParts(words, farWords);
    }

    /** None, one (of length 1, seldom another), or a whole code. */
    private int[] distances(int size) {
        int[] lengths = new int[size];
        int form = random.nextInt(5);
        if (form == 1) {
            lengths[random.nextInt(size)] = rarely(5) ? 2 : 1;
        }
        return form < 2 || size < 2 ? lengths : whole(size, random.nextInt(size));
    }

    private void addHead(int[] literals, int[] distances, int literalCount, int distanceCount) {
        List<int[]> steps = new ArrayList<>(Plain.steps(Bits.joined(literals, distances)));
        if (rarely(30)) {
            steps.add(0, new int[] {16, random.nextInt(4), 2});
        }
        if (rarely(20)) {
            int[][] repeats = {{16, 3, 2}, {17, 7, 3}, {18, 127, 7}};
            steps.set(rarely(2) ? steps.size() - 1 : random.nextInt(steps.size()), repeats[random.nextInt(3)]);
        }
        // Two that need not come: then there are two at least, and the code is whole.
        int[] comings = new int[19];
        comings[random.nextInt(9)]++;
        comings[9 + random.nextInt(10)]++;
        for (int[] step : steps) {
            comings[step[0]]++;
        }
        int[] lengths = Plain.lengths(comings, 7);
        String[] words = Plain.codes(lengths);
        spoilLength(lengths, 40);
        bits.append(Plain.number(literalCount - 257, 5)).append(Plain.number(distanceCount - 1, 5));
        addAlphabet(lengths);
        for (int[] step : steps) {
            bits.append(words[step[0]]).append(Plain.number(step[1], step[2]));
        }
    }

    private void addAlphabet(int[] lengths) {
        int count = 19;
        while (count > 4 && lengths[Plain.ORDER[count - 1]] == 0) {
            count--;
        }
        // More may be told than need be.
        count += random.nextInt(20 - count) * random.nextInt(2);
        bits.append(Plain.number(count - 4, 4));
        for (int i = 0; i < count; i++) {
            bits.append(Plain.number(lengths[Plain.ORDER[i]] & 7, 3));
        }
    }

    private void addParts(String[] words, String[] farWords) {
        List<Integer> literals = coded(words, 0, 256);
        List<Integer> matches = coded(words, 257, Math.min(286, words.length));
        boolean isLong = told > 0 && rarely(8);
        int parts = random.nextInt(isLong ? 200 : 40);
        for (int i = 0; i < parts; i++) {
            List<Integer> far = coded(farWords, 0, reachable(farWords.length));
            boolean isMatch = isLong || literals.isEmpty() || rarely(3);
            if (!matches.isEmpty() && isMatch && (!far.isEmpty() || rarely(60))) {
                addMatch(words, isLong ? matches.get(matches.size() - 1) : any(matches), farWords, far);
            } else if (!literals.isEmpty()) {
                bits.append(words[any(literals)]);
                told++;
            }
        }
        if (words.length > 286 && rarely(15)) {
            bits.append(words[286 + random.nextInt(2)]);
        }
        bits.append(words[256]);
    }

    /** How many of the first distance codes begin within what there is; seldom all. */
    private int reachable(int codes) {
        int most = Math.min(30, codes);
        int count = rarely(300) ? most : 0;
        while (count < most && Plain.ofDistanceSymbol(count)[1] <= told) {
            count++;
        }
        return count;
    }

    private void addMatch(String[] words, int symbol, String[] farWords, List<Integer> far) {
        int[] length = Plain.ofLengthSymbol(symbol);
        int more = random.nextInt(1 << length[2]);
        bits.append(words[symbol]).append(Plain.number(more, length[2]));
        if (farWords.length > 30 && rarely(60)) {
            bits.append(farWords[30 + random.nextInt(2)]);
        } else if (far.isEmpty() || rarely(300)) {
            bits.append(random.nextInt(2));
        } else {
            addDistance(farWords, any(far));
        }
        told += length[1] + more;
    }

    private void addDistance(String[] words, int symbol) {
        int[] distance = Plain.ofDistanceSymbol(symbol);
        int room = rarely(300) ? Integer.MAX_VALUE : Math.max(0, told - distance[1]);
        int most = Math.min(room, (1 << distance[2]) - 1);
        bits.append(words[symbol]).append(Plain.number(rarely(4) ? most : random.nextInt(most + 1), distance[2]));
    }

    /** Lengths of a whole code in which a symbol has one: some are steep, up to the length 15. */
    private int[] whole(int size, int symbol) {
        int[] weights = new int[size];
        int few = 1 + random.nextInt(size);
        int most = 1 << random.nextInt(17);
        for (int i = 0; i < few; i++) {
            weights[random.nextInt(size)] = 1 + random.nextInt(most) / (1 << random.nextInt(12));
        }
        weights[symbol] = 1;
        weights[symbol == 0 ? 1 : random.nextInt(symbol)] = 1 + random.nextInt(most);
        return Plain.lengths(weights, 15);
    }

    private void spoilLength(int[] lengths, int seldom) {
        if (rarely(seldom)) {
            int i = random.nextInt(lengths.length);
            lengths[i] = lengths[i] == 0 ? 1 + random.nextInt(7) : lengths[i] % 7 + 1;
        }
        // None for 256, the code whole all the same.
        if (lengths.length > 256 && lengths[0] == 0 && rarely(seldom)) {
            lengths[0] = lengths[256];
            lengths[256] = 0;
        }
    }

    private static List<Integer> coded(String[] words, int from, int to) {
        List<Integer> symbols = new ArrayList<>();
        for (int i = from; i < to; i++) {
            if (words[i] != null && !words[i].isEmpty()) {
                symbols.add(i);
            }
        }
        return symbols;
    }

    private int any(List<Integer> symbols) {
        return symbols.get(random.nextInt(symbols.size()));
    }

    private boolean rarely(int seldom) {
        return random.nextInt(seldom) == 0;
    }

    private void fill() {
        while (bits.length() % 8 != 0) {
            bits.append(random.nextInt(2));
        }
    }
}
