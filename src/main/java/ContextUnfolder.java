import java.util.Arrays;

/** Unfolds streams of bits into letters; see README.md for how it is used. */
public final class ContextUnfolder {
    private static final int STREAM_LIMIT = 2000;
    private static final int PUT_LIMIT = 24;
    private static final int OUTPUT_LIMIT = 400;
    // Every block but the last one has a letter at least.
    private static final int BLOCK_LIMIT = OUTPUT_LIMIT + 1;

    private final Stream stream = new Stream();
    private final BlockReader blocks = new BlockReader();
    // Two outputs change places, so that a wrong stream leaves the one that is shown alone.
    private Output shown = new Output();
    private Output spare = new Output();

    public ContextUnfolder() {
    }

    public int put(int v, int n) throws IllegalArgumentException, IllegalStateException {
        if (n < 0 || n > PUT_LIMIT) {
            throw new IllegalArgumentException("n is not 0 .. 24");
        }
        if (v < 0 || v >> n != 0) {
            throw new IllegalArgumentException("v is not a number of n bits");
        }
        if (n > STREAM_LIMIT - stream.size) {
            throw new IllegalStateException("there would be more than 2000 bits");
        }
        stream.append(v, n);
        return stream.size;
    }

    public boolean bit(int i) throws IndexOutOfBoundsException {
        if (i < 0 || i >= stream.size) {
            throw new IndexOutOfBoundsException("there is no such bit");
        }
        return stream.bits[i];
    }

    public void flip(int i) throws IndexOutOfBoundsException {
        if (i < 0 || i >= stream.size) {
            throw new IndexOutOfBoundsException("there is no such bit");
        }
        stream.bits[i] = !stream.bits[i];
    }

    public int cut(int n) throws IllegalArgumentException {
        if (n < 0 || n > stream.size) {
            throw new IllegalArgumentException("the stream has no first n bits");
        }
        int gone = stream.size - n;
        stream.size = n;
        return gone;
    }

    public int unfold() throws IllegalArgumentException {
        stream.position = 0;
        spare.clear();
        boolean last = false;
        for (int b = 0; b < BLOCK_LIMIT && !last; b++) {
            last = blocks.readBlock(stream, spare);
        }
        Output done = spare;
        spare = shown;
        shown = done;
        return shown.size;
    }

    public int taken() {
        return stream.position;
    }

    public int letter(int i) throws IndexOutOfBoundsException {
        if (i < 0 || i >= shown.size) {
            throw new IndexOutOfBoundsException("there is no such letter");
        }
        return shown.letters[i];
    }

    public int count(int which) throws IllegalArgumentException {
        if (which < 0 || which >= Output.COUNTS) {
            throw new IllegalArgumentException("there is no such number");
        }
        return shown.counts[which];
    }

    /** The row of bits, and how far it is read. */
    private static final class Stream {
        private final boolean[] bits = new boolean[STREAM_LIMIT];
        private int size;
        private int position;

        void append(int value, int n) {
            for (int k = 0; k < n; k++) {
                bits[size + k] = (value >> k & 1) == 1;
            }
            size += n;
        }

        int readNumber(int n) {
            // The bits of a number are wanted together: none is taken when one is missing.
            if (n > size - position) {
                throw new IllegalArgumentException("the stream ends too early");
            }
            int value = 0;
            for (int k = 0; k < n; k++) {
                if (bits[position + k]) {
                    value |= 1 << k;
                }
            }
            position += n;
            return value;
        }
    }

    /** The letters that one unfolding makes, and what it meets on the way. */
    private static final class Output {
        private static final int COUNTS = 9;
        private static final int BLOCKS = 0;
        private static final int INSERTED = 1;
        private static final int COPIED = 2;
        private static final int OF_WORDS = 3;
        private static final int STRETCHES = 4;
        private static final int LATEST_DISTANCE = 5;
        private static final int OLDEST_DISTANCE = 8;
        private static final int[] COUNTS_AT_FIRST = {0, 0, 0, 0, 0, 4, 11, 15, 16};

        private final int[] letters = new int[OUTPUT_LIMIT];
        private final int[] counts = COUNTS_AT_FIRST.clone();
        private int size;

        void clear() {
            size = 0;
            System.arraycopy(COUNTS_AT_FIRST, 0, counts, 0, COUNTS);
        }

        void add(int letter, int counter) {
            letters[size] = letter;
            size++;
            counts[counter]++;
        }

        /** The letter so far back, from 1; 0 when there is none. */
        int back(int distance) {
            return distance <= size ? letters[size - distance] : 0;
        }

        void remember(int distance) {
            for (int k = OLDEST_DISTANCE; k > LATEST_DISTANCE; k--) {
                counts[k] = counts[k - 1];
            }
            counts[LATEST_DISTANCE] = distance;
        }
    }

    /** A code as a block tells it. */
    private static final class Code {
        private static final int MOST_SYMBOLS = 32;
        private static final int MOST_SYMBOL_BITS = 5;
        private static final int LONGEST = 7;
        private static final int ROOM = 128;
        private static final int NO_LENGTH = -1;
        // 0, then 1 1, then 1 2 2, then 2 2 2 2, then 1 2 3 3: form f begins at f (f - 1) / 2.
        private static final int[] SIMPLE_LENGTHS = {0, 1, 1, 1, 2, 2, 2, 2, 2, 2, 1, 2, 3, 3};

        private final int[] lengths = new int[MOST_SYMBOLS];
        // The symbols in the order of their words, and how many words there are of each length.
        private final int[] ordered = new int[MOST_SYMBOLS];
        private final int[] wordsOfLength = new int[LONGEST + 1];

        void readCode(Stream stream, int alphabet) {
            Arrays.fill(lengths, NO_LENGTH);
            if (stream.readNumber(1) == 1) {
                readSimple(stream, alphabet);
            } else {
                readLengths(stream, alphabet);
            }
            orderSymbols(alphabet);
        }

        int readSymbol(Stream stream) {
            if (wordsOfLength[0] == 1) {
                return ordered[0];
            }
            int word = 0;
            int firstWord = 0;
            int firstPlace = 0;
            for (int length = 1; length <= LONGEST; length++) {
                word = 2 * word + stream.readNumber(1);
                firstWord = 2 * firstWord;
                if (word - firstWord < wordsOfLength[length]) {
                    return ordered[firstPlace + word - firstWord];
                }
                firstWord += wordsOfLength[length];
                firstPlace += wordsOfLength[length];
            }
            // A code that was told leaves no room, so one of its words has been met before this.
            throw new IllegalArgumentException("there is no such word");
        }

        private void readSimple(Stream stream, int alphabet) {
            int symbols = stream.readNumber(2) + 1;
            int width = symbolBits(alphabet);
            for (int k = 0; k < symbols; k++) {
                int symbol = stream.readNumber(width);
                if (symbol >= alphabet || lengths[symbol] != NO_LENGTH) {
                    throw new IllegalArgumentException("a symbol of a simple code is wrong");
                }
                lengths[symbol] = 0;
                ordered[k] = symbol;
            }
            int form = symbols;
            if (symbols == 4 && stream.readNumber(1) == 1) {
                form = 5;
            }
            int start = form * (form - 1) / 2;
            for (int k = 0; k < symbols; k++) {
                lengths[ordered[k]] = SIMPLE_LENGTHS[start + k];
            }
        }

        private void readLengths(Stream stream, int alphabet) {
            int room = ROOM;
            for (int symbol = 0; symbol < alphabet && room > 0; symbol++) {
                int length = stream.readNumber(3);
                if (length > 0) {
                    room -= ROOM >> length;
                    lengths[symbol] = length;
                }
                if (room < 0) {
                    throw new IllegalArgumentException("a code has too little room");
                }
            }
            if (room > 0) {
                throw new IllegalArgumentException("a code has room left");
            }
        }

        private void orderSymbols(int alphabet) {
            int placed = 0;
            for (int length = 0; length <= LONGEST; length++) {
                int before = placed;
                for (int symbol = 0; symbol < alphabet; symbol++) {
                    if (lengths[symbol] == length) {
                        ordered[placed] = symbol;
                        placed++;
                    }
                }
                wordsOfLength[length] = placed - before;
            }
        }

        private static int symbolBits(int alphabet) {
            int width = 0;
            while (width < MOST_SYMBOL_BITS && 1 << width < alphabet) {
                width++;
            }
            return width;
        }
    }

    /** The letters that a block inserts: their types, and their codes by type and context. */
    private static final class LetterReader {
        private static final int MOST_TYPES = 3;
        private static final int MOST_CODES = 4;
        private static final int CONTEXTS = 4;
        private static final int ALPHABET = 32;

        private final Code typeCode = new Code();
        private final Code[] letterCodes = {new Code(), new Code(), new Code(), new Code()};
        private final int[] modes = new int[MOST_TYPES];
        private final int[] map = new int[MOST_TYPES * CONTEXTS];
        private final int[] row = new int[MOST_CODES];
        private int types;
        private int type;
        private int typeBefore;
        private int stretchLeft;

        void readTypes(Stream stream) {
            types = stream.readNumber(2) + 1;
            if (types > MOST_TYPES) {
                throw new IllegalArgumentException("there are four types");
            }
            type = 0;
            typeBefore = 1;
            if (types > 1) {
                typeCode.readCode(stream, types + 2);
                stretchLeft = stream.readNumber(5) + 1;
            }
            for (int t = 0; t < types; t++) {
                modes[t] = stream.readNumber(2);
            }
        }

        void readLetterCodes(Stream stream) {
            int codes = stream.readNumber(2) + 1;
            if (codes > 1) {
                readMap(stream, codes);
            } else {
                Arrays.fill(map, 0);
            }
            for (int k = 0; k < codes; k++) {
                letterCodes[k].readCode(stream, ALPHABET);
            }
        }

        boolean stretchIsOver() {
            return types > 1 && stretchLeft == 0;
        }

        void readStretch(Stream stream) {
            int symbol = typeCode.readSymbol(stream);
            int ended = type;
            if (symbol == 0) {
                type = typeBefore;
            } else if (symbol == 1) {
                type = ended + 1 < types ? ended + 1 : 0;
            } else {
                type = symbol - 2;
            }
            typeBefore = ended;
            stretchLeft = stream.readNumber(5) + 1;
        }

        int readLetter(Stream stream, int p, int q) {
            if (types > 1) {
                stretchLeft--;
            }
            int code = map[type * CONTEXTS + context(modes[type], p, q)];
            return letterCodes[code].readSymbol(stream);
        }

        private void readMap(Stream stream, int codes) {
            int entries = types * CONTEXTS;
            for (int k = 0; k < entries; k++) {
                map[k] = stream.readNumber(2);
                if (map[k] >= codes) {
                    throw new IllegalArgumentException("the map tells a code that is not there");
                }
            }
            if (stream.readNumber(1) == 1) {
                replacePlaces(entries);
            }
        }

        private void replacePlaces(int entries) {
            for (int k = 0; k < MOST_CODES; k++) {
                row[k] = k;
            }
            for (int k = 0; k < entries; k++) {
                int place = map[k];
                int meant = row[place];
                for (int j = place; j > 0; j--) {
                    row[j] = row[j - 1];
                }
                row[0] = meant;
                map[k] = meant;
            }
        }

        private static int context(int mode, int p, int q) {
            switch (mode) {
                case 0:
                    return p % 4;
                case 1:
                    return p / 8;
                case 2:
                    return p == 0 ? 0 : p < 8 ? 1 : p < 20 ? 2 : 3;
                default:
                    return 2 * (p / 16) + q / 16;
            }
        }
    }

    /** Reads one block behind another. */
    private static final class BlockReader {
        private static final int COMMANDS = 16;
        private static final int DISTANCES = 12;
        private static final int REMEMBERED = 4;
        private static final int[] LEAST_INSERTED = {0, 1, 3, 7};
        private static final int[] LEAST_COPIED = {2, 3, 5, 9};
        private static final int WORDS = 8;
        private static final int SHORTEST_WORD = 3;
        private static final int LONGEST_WORD = 6;
        private static final int FIRST_CHANGED = 1;
        private static final int FIRST_LEFT_OUT = 2;
        private static final int LAST_LEFT_OUT = 3;
        private static final int ZERO_BEHIND = 4;

        private final LetterReader letters = new LetterReader();
        private final Code commandCode = new Code();
        private final Code distanceCode = new Code();
        // How many letters the output has when the block is full.
        private int end;

        /** Whether the block was the last one. */
        boolean readBlock(Stream stream, Output output) {
            boolean last = stream.readNumber(1) == 1;
            output.counts[Output.BLOCKS]++;
            if (last && stream.readNumber(1) == 1) {
                return true;
            }
            end = output.size + stream.readNumber(8) + 1;
            if (end > OUTPUT_LIMIT) {
                throw new IllegalArgumentException("there would be more than 400 letters");
            }
            if (!last && stream.readNumber(1) == 1) {
                readPlain(stream, output);
            } else {
                readCoded(stream, output);
            }
            return last;
        }

        private void readPlain(Stream stream, Output output) {
            for (int k = output.size; k < end; k++) {
                output.add(stream.readNumber(5), Output.INSERTED);
            }
        }

        private void readCoded(Stream stream, Output output) {
            letters.readTypes(stream);
            letters.readLetterCodes(stream);
            commandCode.readCode(stream, COMMANDS);
            distanceCode.readCode(stream, DISTANCES);
            // Every command has a letter at least, so there are not more of them than letters.
            for (int k = 0; k < OUTPUT_LIMIT && output.size < end; k++) {
                readCommand(stream, output);
            }
        }

        private void readCommand(Stream stream, Output output) {
            int symbol = commandCode.readSymbol(stream);
            int a = symbol / 4;
            int c = symbol % 4;
            int inserted = LEAST_INSERTED[a] + stream.readNumber(a);
            int copied = LEAST_COPIED[c] + stream.readNumber(c);
            refuseBeyondEnd(output, inserted);
            for (int k = 0; k < inserted; k++) {
                if (letters.stretchIsOver()) {
                    letters.readStretch(stream);
                    output.counts[Output.STRETCHES]++;
                }
                int letter = letters.readLetter(stream, output.back(1), output.back(2));
                output.add(letter, Output.INSERTED);
            }
            if (output.size < end) {
                readPiece(stream, output, copied);
            }
        }

        private void readPiece(Stream stream, Output output, int length) {
            int symbol = distanceCode.readSymbol(stream);
            int distance = symbol < REMEMBERED
                    ? output.counts[Output.LATEST_DISTANCE + symbol]
                    : readDistance(stream, symbol - REMEMBERED);
            if (distance > output.size) {
                addWord(output, distance - output.size - 1, length);
                return;
            }
            refuseBeyondEnd(output, length);
            for (int k = 0; k < length; k++) {
                output.add(output.back(distance), Output.COPIED);
            }
            if (symbol != 0) {
                output.remember(distance);
            }
        }

        private static int readDistance(Stream stream, int k) {
            int e = 1 + k / 2;
            return ((2 + k % 2) << e) - 3 + stream.readNumber(e);
        }

        private void addWord(Output output, int i, int length) {
            int w = i % WORDS;
            int change = i / WORDS;
            if (length < SHORTEST_WORD || length > LONGEST_WORD || change > ZERO_BEHIND) {
                throw new IllegalArgumentException("there is no such word");
            }
            int from = change == FIRST_LEFT_OUT ? 1 : 0;
            int to = change == LAST_LEFT_OUT ? length - 1 : length;
            refuseBeyondEnd(output, change == ZERO_BEHIND ? length + 1 : to - from);
            for (int j = from; j < to; j++) {
                int letter = (7 * w + 5 * length + 3 * j * j + j * w) % 32;
                boolean changed = change == FIRST_CHANGED && j == 0;
                output.add(changed ? letter ^ 1 : letter, Output.OF_WORDS);
            }
            if (change == ZERO_BEHIND) {
                output.add(0, Output.OF_WORDS);
            }
        }

        private void refuseBeyondEnd(Output output, int more) {
            if (more > end - output.size) {
                throw new IllegalArgumentException("the block would have more than its length");
            }
        }
    }
}
