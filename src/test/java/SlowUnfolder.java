import java.util.ArrayList;
import java.util.Collections;
import java.util.HashMap;
import java.util.List;
import java.util.Map;

/** Reads a stream as the document's words go, with its words as texts; to compare the program with. */
final class SlowUnfolder {
    private static final class Wrong extends Exception {
        private static final long serialVersionUID = 1;
    }

    private final String bits;
    private final List<Integer> distances = new ArrayList<>(List.of(4, 11, 15, 16));
    final List<Integer> letters = new ArrayList<>();
    final int[] counts = new int[9];
    final boolean right;
    int taken;

    private int full;
    private Map<String, Integer> typeCode;
    private List<Integer> modes;
    private List<Integer> map;
    private List<Map<String, Integer>> letterCodes;
    /** The types of all stretches of the block, and before them the one that symbol 0 is at first. */
    private List<Integer> stretches;
    private int left;

    SlowUnfolder(String bits) {
        this.bits = bits;
        boolean allRight = true;
        try {
            while (!block()) {
                counts[0]++;
            }
            counts[0]++;
        } catch (Wrong e) {
            allRight = false;
        }
        right = allRight;
        for (int k = 0; k < 4; k++) {
            counts[5 + k] = distances.get(k);
        }
    }

    private int number(int n) throws Wrong {
        wrongIf(taken + n > bits.length());
        String text = new StringBuilder(bits.substring(taken, taken + n)).reverse().toString();
        taken += n;
        return n == 0 ? 0 : Integer.parseInt(text, 2);
    }

    private static void wrongIf(boolean so) throws Wrong {
        if (so) {
            throw new Wrong();
        }
    }

    private int symbol(Map<String, Integer> code) throws Wrong {
        String word = "";
        while (!code.containsKey(word)) {
            word += number(1);
        }
        return code.get(word);
    }

    private Map<String, Integer> code(int alphabet) throws Wrong {
        Map<Integer, Integer> lengths = number(1) == 1 ? simple(alphabet) : byLengths(alphabet);
        List<Integer> order = new ArrayList<>(lengths.keySet());
        Collections.sort(order, (x, y) -> 100 * (lengths.get(x) - lengths.get(y)) + x - y);
        Map<String, Integer> words = new HashMap<>();
        long next = 0;
        int before = lengths.get(order.get(0));
        for (int symbol : order) {
            int length = lengths.get(symbol);
            next <<= length - before;
            String word = length == 0 ? "" : Long.toBinaryString(next + (1L << length)).substring(1);
            words.put(word, symbol);
            next++;
            before = length;
        }
        return words;
    }

    private Map<Integer, Integer> simple(int alphabet) throws Wrong {
        int many = number(2) + 1;
        List<Integer> symbols = new ArrayList<>();
        for (int k = 0; k < many; k++) {
            int symbol = number(Integer.toBinaryString(alphabet - 1).length());
            wrongIf(symbol >= alphabet || symbols.contains(symbol));
            symbols.add(symbol);
        }
        String[] forms = {"", "0", "11", "122", "2222", "1233"};
        String form = forms[many == 4 ? 4 + number(1) : many];
        Map<Integer, Integer> lengths = new HashMap<>();
        for (int k = 0; k < many; k++) {
            lengths.put(symbols.get(k), form.charAt(k) - '0');
        }
        return lengths;
    }

    private Map<Integer, Integer> byLengths(int alphabet) throws Wrong {
        Map<Integer, Integer> lengths = new HashMap<>();
        int room = 128;
        for (int symbol = 0; room != 0; symbol++) {
            wrongIf(symbol == alphabet);
            int length = number(3);
            if (length != 0) {
                room -= 128 >> length;
                lengths.put(symbol, length);
            }
            wrongIf(room < 0);
        }
        return lengths;
    }

    private boolean block() throws Wrong {
        boolean last = number(1) == 1;
        if (last && number(1) == 1) {
            return true;
        }
        full = letters.size() + number(8) + 1;
        wrongIf(full > 400);
        if (!last && number(1) == 1) {
            while (letters.size() < full) {
                letters.add(number(5));
                counts[1]++;
            }
            return false;
        }
        types();
        Map<String, Integer> commandCode = code(16);
        Map<String, Integer> distanceCode = code(12);
        while (letters.size() < full) {
            command(commandCode, distanceCode);
        }
        return last;
    }

    private void types() throws Wrong {
        int types = number(2) + 1;
        wrongIf(types == 4);
        typeCode = null;
        stretches = new ArrayList<>(List.of(1, 0));
        if (types > 1) {
            typeCode = code(types + 2);
            left = number(5) + 1;
        }
        modes = new ArrayList<>();
        for (int t = 0; t < types; t++) {
            modes.add(number(2));
        }
        int codes = number(2) + 1;
        map = new ArrayList<>(Collections.nCopies(4 * types, 0));
        if (codes > 1) {
            map(codes);
        }
        letterCodes = new ArrayList<>();
        for (int k = 0; k < codes; k++) {
            letterCodes.add(code(32));
        }
    }

    private void map(int codes) throws Wrong {
        for (int k = 0; k < map.size(); k++) {
            map.set(k, number(2));
            wrongIf(map.get(k) >= codes);
        }
        if (number(1) == 1) {
            List<Integer> row = new ArrayList<>(List.of(0, 1, 2, 3));
            for (int k = 0; k < map.size(); k++) {
                int place = map.get(k);
                row.add(0, row.remove(place));
                map.set(k, row.get(0));
            }
        }
    }

    private void command(Map<String, Integer> commandCode, Map<String, Integer> distanceCode) throws Wrong {
        int symbol = symbol(commandCode);
        int inserted = List.of(0, 1, 3, 7).get(symbol / 4) + number(symbol / 4);
        int copied = List.of(2, 3, 5, 9).get(symbol % 4) + number(symbol % 4);
        wrongIf(letters.size() + inserted > full);
        for (int k = 0; k < inserted; k++) {
            letter();
        }
        if (letters.size() < full) {
            piece(distanceCode, copied);
        }
    }

    private void letter() throws Wrong {
        int now = stretches.get(stretches.size() - 1);
        if (modes.size() > 1 && left == 0) {
            int symbol = symbol(typeCode);
            int before = stretches.get(stretches.size() - 2);
            now = symbol == 0 ? before : symbol == 1 ? (now + 1) % modes.size() : symbol - 2;
            stretches.add(now);
            left = number(5) + 1;
            counts[4]++;
        }
        left--;
        int context = context(modes.get(now), before(1), before(2));
        letters.add(symbol(letterCodes.get(map.get(4 * now + context))));
        counts[1]++;
    }

    private int before(int back) {
        return letters.size() < back ? 0 : letters.get(letters.size() - back);
    }

    private static int context(int mode, int p, int q) {
        if (mode == 0) {
            return p % 4;
        }
        if (mode == 1) {
            return p / 8;
        }
        if (mode == 2) {
            return p == 0 ? 0 : p < 8 ? 1 : p < 20 ? 2 : 3;
        }
        return 2 * (p / 16) + q / 16;
    }

    private void piece(Map<String, Integer> distanceCode, int length) throws Wrong {
        int s = symbol(distanceCode);
        int e = 1 + (s - 4) / 2;
        int distance = s < 4 ? distances.get(s) : (2 + s % 2) * (1 << e) - 3 + number(e);
        if (distance > letters.size()) {
            List<Integer> word = word(distance - letters.size() - 1, length);
            wrongIf(letters.size() + word.size() > full);
            letters.addAll(word);
            counts[3] += word.size();
            return;
        }
        wrongIf(letters.size() + length > full);
        for (int k = 0; k < length; k++) {
            letters.add(before(distance));
            counts[2]++;
        }
        if (s != 0) {
            distances.add(0, distance);
            distances.remove(4);
        }
    }

    private static List<Integer> word(int i, int length) throws Wrong {
        wrongIf(length < 3 || length > 6 || i / 8 > 4);
        List<Integer> word = new ArrayList<>();
        int w = i % 8;
        for (int j = 0; j < length; j++) {
            word.add((7 * w + 5 * length + 3 * j * j + j * w) % 32);
        }
        if (i / 8 == 1) {
            word.set(0, word.get(0) ^ 1);
        } else if (i / 8 == 2) {
            word.remove(0);
        } else if (i / 8 == 3) {
            word.remove(length - 1);
        } else if (i / 8 == 4) {
            word.add(0);
        }
        return word;
    }
}
