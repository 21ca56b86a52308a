import java.util.ArrayList;
import java.util.HashMap;
import java.util.List;
import java.util.Map;

/** What begins a DYNAMIC block, as it is read from the bits of an output. */
final class Head {
    final int literals;
    final int distances;
    final int told;
    final int[] alphabet = new int[19];
    /** {symbol, how many of the row it tells}. */
    final List<int[]> steps = new ArrayList<>();
    final int[] row;
    private final int[] output;
    private int at;

    /** Of the desk's first block, whose header is told ahead of it. */
    Head(PackDesk desk) {
        output = Desks.outputOf(desk);
        at = 3;
        literals = 257 + number(5);
        distances = 1 + number(5);
        told = 4 + number(4);
        for (int i = 0; i < told; i++) {
            alphabet[Plain.ORDER[i]] = number(3);
        }
        row = new int[literals + distances];
        readRow(words());
    }

    private Map<String, Integer> words() {
        String[] codes = Plain.codes(alphabet);
        Map<String, Integer> words = new HashMap<>();
        for (int symbol = 0; symbol < 19; symbol++) {
            if (codes[symbol] != null) {
                words.put(codes[symbol], symbol);
            }
        }
        return words;
    }

    private void readRow(Map<String, Integer> words) {
        int filled = 0;
        while (filled < row.length) {
            StringBuilder word = new StringBuilder();
            do {
                word.append(number(1));
            } while (!words.containsKey(word.toString()));
            int symbol = words.get(word.toString());
            int count = symbol == 16 ? 3 + number(2) : symbol == 17 ? 3 + number(3) : symbol == 18 ? 11 + number(7) : 1;
            int value = symbol < 16 ? symbol : symbol == 16 ? row[filled - 1] : 0;
            for (int i = 0; i < count; i++) {
                row[filled + i] = value;
            }
            filled += count;
            steps.add(new int[] {symbol, count});
        }
    }

    /** How often each of the 19 comes. */
    int[] comings() {
        int[] comings = new int[19];
        for (int[] step : steps) {
            comings[step[0]]++;
        }
        return comings;
    }

    /** The steps that tell the row from a place on up to another: numbers by themselves, repetitions with how many. */
    String stepsBetween(int from, int to) {
        StringBuilder text = new StringBuilder();
        int place = 0;
        for (int[] step : steps) {
            if (place >= from && place < to) {
                text.append(text.length() == 0 ? "" : " ").append(step[0]);
                text.append(step[0] < 16 ? "" : ":" + step[1]);
            }
            place += step[1];
        }
        return text.toString();
    }

    private int number(int bits) {
        int value = 0;
        for (int i = 0; i < bits; i++, at++) {
            value |= (output[at / 8] >> at % 8 & 1) << i;
        }
        return value;
    }
}
