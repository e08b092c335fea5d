import java.util.ArrayList;
import java.util.List;
import java.util.Random;

/** Makes a stream by chance, and keeps what it must unfold to; it reads nothing back. */
final class RandomFolder {
    private final Random random;
    private final List<Integer> distances = new ArrayList<>(List.of(4, 11, 15, 16));
    final StreamWriter stream = new StreamWriter();
    final List<Integer> letters = new ArrayList<>();
    final int[] counts = new int[9];

    private StreamWriter body;
    private Types types;
    private TestCode commands;
    private TestCode pieces;

    RandomFolder(long seed) {
        random = new Random(seed);
        int blocks = random.nextInt(4);
        for (int k = 0; k < blocks; k++) {
            if (random.nextInt(3) == 0) {
                plainBlock();
            } else {
                codedBlock(false);
            }
        }
        if (random.nextInt(3) == 0) {
            stream.lastEmpty();
            counts[0]++;
        } else {
            codedBlock(true);
        }
        for (int k = 0; k < 4; k++) {
            counts[5 + k] = distances.get(k);
        }
    }

    boolean fits() {
        return stream.size() <= 1900 && letters.size() <= 400;
    }

    private void plainBlock() {
        int[] row = new int[1 + random.nextInt(12)];
        for (int k = 0; k < row.length; k++) {
            row[k] = random.nextInt(32);
            letters.add(row[k]);
        }
        stream.plain(row);
        counts[0]++;
        counts[1] += row.length;
    }

    /** The body comes first, as the length of the block is what its commands make. */
    private void codedBlock(boolean last) {
        int before = letters.size();
        body = new StreamWriter();
        types = new Types();
        commands = new TestCode(random, body, 16);
        pieces = new TestCode(random, body, 12);
        int most = 1 + random.nextInt(8);
        boolean open = true;
        for (int k = 0; k < most && open && letters.size() - before < 200; k++) {
            open = command();
        }
        if (letters.size() == before) {
            // No command was found with these codes: a plain block stands in for this one.
            plainBlock();
            if (last) {
                stream.lastEmpty();
                counts[0]++;
            }
            return;
        }
        int length = letters.size() - before;
        if (last) {
            stream.lastOf(length);
        } else {
            stream.codedOf(length);
        }
        stream.append(body);
        counts[0]++;
    }

    /** Whether the block can go on: not if it is full behind inserted letters, or no command was found. */
    private boolean command() {
        for (int tries = 0; tries < 60; tries++) {
            int symbol = commands.any(random);
            int a = symbol >> 2;
            int c = symbol & 3;
            int moreInserted = random.nextInt(1 << a);
            int moreCopied = random.nextInt(1 << c);
            int inserted = new int[] {0, 1, 3, 7}[a] + moreInserted;
            int length = new int[] {2, 3, 5, 9}[c] + moreCopied;
            boolean full = inserted > 0 && random.nextInt(12) == 0;
            int[] piece = full ? null : findPiece(letters.size() + inserted, length);
            if (full || piece != null) {
                body.word(commands.words[symbol]).number(moreInserted, a).number(moreCopied, c);
                for (int k = 0; k < inserted; k++) {
                    letters.add(types.letter());
                    counts[1]++;
                }
                if (!full) {
                    addPiece(piece, length);
                }
                return !full;
            }
        }
        return false;
    }

    private static int least(int symbol) {
        return new int[] {1, 3, 5, 9, 13, 21, 29, 45}[symbol - 4];
    }

    private static int width(int symbol) {
        return symbol / 2 - 1;
    }

    private int distance(int symbol, int more) {
        return symbol < 4 ? distances.get(symbol) : least(symbol) + more;
    }

    /** A distance symbol and its number that are not wrong behind so many letters; null if none is found. */
    private int[] findPiece(int size, int length) {
        for (int tries = 0; tries < 20; tries++) {
            int symbol = pieces.any(random);
            int more = symbol < 4 ? 0 : random.nextInt(1 << width(symbol));
            int beyond = distance(symbol, more) - size;
            if (beyond <= 0 || beyond <= 40 && length >= 3 && length <= 6) {
                return new int[] {symbol, more};
            }
        }
        return null;
    }

    private void addPiece(int[] piece, int length) {
        int symbol = piece[0];
        body.word(pieces.words[symbol]);
        if (symbol >= 4) {
            body.number(piece[1], width(symbol));
        }
        int distance = distance(symbol, piece[1]);
        int size = letters.size();
        if (distance > size) {
            List<Integer> word = word(distance - size - 1, length);
            letters.addAll(word);
            counts[3] += word.size();
            return;
        }
        for (int k = 0; k < length; k++) {
            letters.add(letters.get(size - distance + k));
        }
        counts[2] += length;
        if (symbol != 0) {
            distances.add(0, distance);
            distances.remove(4);
        }
    }

    private static List<Integer> word(int i, int length) {
        List<Integer> word = new ArrayList<>();
        int w = i & 7;
        for (int j = 0; j < length; j++) {
            word.add((7 * w + 5 * length + 3 * j * j + j * w) & 31);
        }
        switch (i >> 3) {
            case 1 -> word.set(0, word.get(0) ^ 1);
            case 2 -> word.remove(0);
            case 3 -> word.remove(length - 1);
            case 4 -> word.add(0);
            default -> { }
        }
        return word;
    }

    /** The types of a block, and its letter codes. */
    private final class Types {
        private final int many = 1 + random.nextInt(3);
        private final int[] modes = new int[many];
        private final List<Integer> history = new ArrayList<>(List.of(1, 0));
        private final List<Integer> map = new ArrayList<>();
        private final List<TestCode> codes = new ArrayList<>();
        private TestCode typeCode;
        private int left;

        Types() {
            body.number(many - 1, 2);
            if (many > 1) {
                typeCode = new TestCode(random, body, many + 2);
                stretch();
            }
            for (int t = 0; t < many; t++) {
                modes[t] = random.nextInt(4);
                body.number(modes[t], 2);
            }
            int letterCodes = 1 + random.nextInt(4);
            body.number(letterCodes - 1, 2);
            for (int k = 0; k < 4 * many; k++) {
                map.add(letterCodes == 1 ? 0 : random.nextInt(letterCodes));
            }
            if (letterCodes > 1) {
                tellMap();
            }
            for (int k = 0; k < letterCodes; k++) {
                codes.add(new TestCode(random, body, 32));
            }
        }

        private void tellMap() {
            boolean places = random.nextBoolean();
            List<Integer> row = new ArrayList<>(List.of(0, 1, 2, 3));
            for (Integer code : map) {
                int place = row.indexOf(code);
                body.number(places ? place : code, 2);
                row.remove(place);
                row.add(0, code);
            }
            body.number(places ? 1 : 0, 1);
        }

        private void stretch() {
            left = 1 + random.nextInt(random.nextBoolean() ? 4 : 32);
            body.number(left - 1, 5);
        }

        int letter() {
            if (many > 1 && left == 0) {
                int symbol = typeCode.any(random);
                body.word(typeCode.words[symbol]);
                int now = history.get(history.size() - 1);
                int before = history.get(history.size() - 2);
                history.add(symbol == 0 ? before : symbol == 1 ? (now + 1) % many : symbol - 2);
                stretch();
                counts[4]++;
            }
            left--;
            int type = history.get(history.size() - 1);
            int size = letters.size();
            int p = size < 1 ? 0 : letters.get(size - 1);
            int q = size < 2 ? 0 : letters.get(size - 2);
            int[] contexts = {p & 3, p >> 3, p == 0 ? 0 : p <= 7 ? 1 : p <= 19 ? 2 : 3, p >> 4 << 1 | q >> 4};
            TestCode code = codes.get(map.get(4 * type + contexts[modes[type]]));
            int letter = code.any(random);
            body.word(code.words[letter]);
            return letter;
        }
    }
}
