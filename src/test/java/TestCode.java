import java.util.ArrayList;
import java.util.Collections;
import java.util.List;
import java.util.Random;

/** A code by chance: it is told to a stream, and its words are made as the document says. */
final class TestCode {
    private final List<Integer> symbols = new ArrayList<>();
    /** By symbol; null for one that has none. */
    final String[] words;

    TestCode(Random random, StreamWriter stream, int alphabet) {
        words = new String[alphabet];
        List<Integer> all = new ArrayList<>();
        for (int k = 0; k < alphabet; k++) {
            all.add(k);
        }
        Collections.shuffle(all, random);
        int[] lengths = new int[alphabet];
        if (random.nextInt(3) > 0) {
            tellSimple(random, stream, all, lengths);
        } else {
            tellLengths(random, stream, all, lengths);
        }
        makeWords(lengths);
    }

    int any(Random random) {
        return symbols.get(random.nextInt(symbols.size()));
    }

    private void tellSimple(Random random, StreamWriter stream, List<Integer> all, int[] lengths) {
        int many = 1 + random.nextInt(4);
        int width = Integer.toBinaryString(lengths.length - 1).length();
        int form = many < 4 ? many - 1 : 3 + random.nextInt(2);
        int[][] forms = {{0}, {1, 1}, {1, 2, 2}, {2, 2, 2, 2}, {1, 2, 3, 3}};
        stream.number(1, 1).number(many - 1, 2);
        for (int k = 0; k < many; k++) {
            stream.number(all.get(k), width);
            symbols.add(all.get(k));
            lengths[all.get(k)] = forms[form][k];
        }
        if (many == 4) {
            stream.number(form - 3, 1);
        }
    }

    /** Splits words by chance, so that no room is left. */
    private void tellLengths(Random random, StreamWriter stream, List<Integer> all, int[] lengths) {
        List<Integer> leaves = new ArrayList<>(List.of(1, 1));
        int many = 2 + random.nextInt(lengths.length - 1);
        for (int tries = 0; tries < 200 && leaves.size() < many; tries++) {
            int leaf = random.nextInt(leaves.size());
            int length = leaves.get(leaf);
            if (length < 7) {
                leaves.set(leaf, length + 1);
                leaves.add(length + 1);
            }
        }
        int lastSymbol = 0;
        for (int k = 0; k < leaves.size(); k++) {
            symbols.add(all.get(k));
            lengths[all.get(k)] = leaves.get(k);
            lastSymbol = Math.max(lastSymbol, all.get(k));
        }
        stream.number(0, 1);
        for (int symbol = 0; symbol <= lastSymbol; symbol++) {
            stream.number(lengths[symbol], 3);
        }
    }

    private void makeWords(int[] lengths) {
        List<Integer> order = new ArrayList<>(symbols);
        order.sort((x, y) -> lengths[x] != lengths[y] ? lengths[x] - lengths[y] : x - y);
        String word = "0".repeat(lengths[order.get(0)]);
        for (int symbol : order) {
            if (symbol != order.get(0)) {
                word = oneMore(word) + "0".repeat(lengths[symbol] - word.length());
            }
            words[symbol] = word;
        }
    }

    private static String oneMore(String word) {
        int zero = word.lastIndexOf('0');
        return word.substring(0, zero) + "1" + "0".repeat(word.length() - zero - 1);
    }
}
