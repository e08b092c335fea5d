import java.util.ArrayList;
import java.util.Arrays;
import java.util.List;

/** Writes streams for the tests, and keeps which bits are wanted together. */
final class StreamWriter {
    private final List<Integer> bits = new ArrayList<>();
    private final List<Integer> starts = new ArrayList<>();

    int size() {
        return bits.size();
    }

    /** Where the bits begin that are wanted together with bit i. */
    int startOf(int i) {
        return starts.get(i);
    }

    StreamWriter number(int value, int n) {
        int start = bits.size();
        for (int k = 0; k < n; k++) {
            bits.add(value >> k & 1);
            starts.add(start);
        }
        return this;
    }

    /** Bits as they stand in the text, each wanted alone; spaces do not matter. */
    StreamWriter word(String text) {
        for (char c : text.replace(" ", "").toCharArray()) {
            number(c - '0', 1);
        }
        return this;
    }

    StreamWriter plain(int... letters) {
        number(0, 1).number(letters.length - 1, 8).number(1, 1);
        for (int letter : letters) {
            number(letter, 5);
        }
        return this;
    }

    /** A run of n letters of the same kind in a plain block. */
    StreamWriter plainRun(int letter, int n) {
        int[] letters = new int[n];
        Arrays.fill(letters, letter);
        return plain(letters);
    }

    StreamWriter lastEmpty() {
        return word("11");
    }

    StreamWriter lastOf(int length) {
        return word("10").number(length - 1, 8);
    }

    StreamWriter codedOf(int length) {
        return word("0").number(length - 1, 8).word("0");
    }

    /** One type, of this mode, and one letter code, which follows. */
    StreamWriter oneType(int mode) {
        return number(0, 2).number(mode, 2).number(0, 2);
    }

    StreamWriter simple(int width, int... symbols) {
        number(1, 1).number(symbols.length - 1, 2);
        for (int symbol : symbols) {
            number(symbol, width);
        }
        return this;
    }

    StreamWriter lengths(int... lengths) {
        number(0, 1);
        for (int length : lengths) {
            number(length, 3);
        }
        return this;
    }

    StreamWriter append(StreamWriter other) {
        int shift = bits.size();
        bits.addAll(other.bits);
        for (int start : other.starts) {
            starts.add(start + shift);
        }
        return this;
    }

    StreamWriter first(int n) {
        StreamWriter part = new StreamWriter();
        part.bits.addAll(bits.subList(0, n));
        part.starts.addAll(starts.subList(0, n));
        return part;
    }

    ContextUnfolder unfolder() {
        ContextUnfolder x = new ContextUnfolder();
        putInto(x);
        return x;
    }

    void putInto(ContextUnfolder x) {
        for (int from = 0; from < bits.size(); from += 24) {
            int n = Math.min(24, bits.size() - from);
            int value = 0;
            for (int k = 0; k < n; k++) {
                value |= bits.get(from + k) << k;
            }
            x.put(value, n);
        }
    }
}
