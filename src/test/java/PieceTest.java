/** Promises 6, 7 and 9: commands, pieces, remembered distances and words. */
final class PieceTest {
    private static final Check CHECK = new Check();
    private static final int[] RISING = {1, 2, 3, 4, 5, 6, 7, 8, 9, 10, 11, 12, 13, 14, 15, 16, 17, 18, 19, 20};

    public static void main(String[] args) {
        commands();
        insertedTooMany();
        nothingIsCopiedWhenFull();
        copiedTooMany();
        overlaps();
        distances();
        remembered();
        rememberedThroughBlocks();
        wordsAsTheyAre();
        alteredWords();
        wrongWords();
        wordsThatAreTooLong();
        wordsAreNotRemembered();
        CHECK.end();
    }

    private static StreamWriter copy(StreamWriter stream) {
        return new StreamWriter().append(stream);
    }

    private static int[] join(int[] left, int... right) {
        int[] both = java.util.Arrays.copyOf(left, left.length + right.length);
        System.arraycopy(right, 0, both, left.length, right.length);
        return both;
    }

    /** A last block behind 1 .. 20, with the letter 0, one command symbol and one distance symbol. */
    private static StreamWriter behindRising(int length, int command, int distance) {
        StreamWriter stream = new StreamWriter().plain(RISING).lastOf(length).oneType(0).simple(5, 0);
        return stream.simple(4, command).simple(4, distance);
    }

    private static void commands() {
        int[] inserted = {0, 1, 3, 7};
        int[] copied = {2, 3, 5, 9};
        for (int symbol = 0; symbol < 16; symbol++) {
            int a = symbol / 4;
            int c = symbol % 4;
            for (int more = 0; more < 1 << (a + c); more++) {
                int moreInserted = more & ((1 << a) - 1);
                int moreCopied = more >> a;
                int letters = inserted[a] + moreInserted;
                int piece = copied[c] + moreCopied;
                StreamWriter stream = behindRising(letters + piece, symbol, 0);
                stream.number(moreInserted, a).number(moreCopied, c);
                int[] due = join(RISING, new int[letters + piece]);
                for (int k = 20 + letters; k < due.length; k++) {
                    due[k] = due[k - 4];
                }
                ContextUnfolder x = CHECK.unfolds("command " + symbol, stream, due);
                CHECK.counts("command " + symbol, x, 2, 20 + letters, piece, 0, 0, 4, 11, 15, 16);
            }
        }
    }

    private static void insertedTooMany() {
        StreamWriter stream = behindRising(6, 9, 4).number(3, 2);
        CHECK.wrong("the second number is missing", stream, stream.size());
        StreamWriter by1 = behindRising(5, 9, 4).number(3, 2).number(0, 1);
        CHECK.wrong("one letter too many", copy(by1).number(0, 24), by1.size());
        CHECK.unfolds("just as many", stream.number(0, 1), join(RISING, 0, 0, 0, 0, 0, 0));
    }

    private static void nothingIsCopiedWhenFull() {
        StreamWriter stream = behindRising(7, 15, 4).number(0, 3).number(7, 3);
        ContextUnfolder x = CHECK.unfolds("full behind the letters", stream, join(RISING, new int[7]));
        CHECK.counts("full behind the letters", x, 2, 27, 0, 0, 0, 4, 11, 15, 16);
    }

    private static void copiedTooMany() {
        StreamWriter stream = behindRising(3, 4, 4).number(0, 1).number(1, 1);
        CHECK.unfolds("just as many", stream, join(RISING, 0, 20, 0));
        StreamWriter by1 = behindRising(2, 4, 6).number(0, 1).number(0, 2);
        CHECK.wrong("one copied letter too many", copy(by1).number(0, 24), by1.size());
        StreamWriter first = behindRising(2, 4, 6).number(0, 1);
        CHECK.wrong("the distance comes first", copy(first).number(0, 1), first.size());
    }

    private static void overlaps() {
        StreamWriter stream = behindRising(9, 3, 4).number(0, 3).number(0, 1);
        CHECK.unfolds("from 1 back", stream, join(RISING, 20, 20, 20, 20, 20, 20, 20, 20, 20));
        stream = behindRising(9, 3, 5).number(0, 3).number(0, 1);
        CHECK.unfolds("from 3 back", stream, join(RISING, 18, 19, 20, 18, 19, 20, 18, 19, 20));
    }

    private static void distances() {
        int[] least = {1, 3, 5, 9, 13, 21, 29, 45};
        int[] bits = {1, 1, 2, 2, 3, 3, 4, 4};
        int[] before = new int[64];
        for (int k = 0; k < 64; k++) {
            before[k] = (5 * k + k / 32) % 32;
        }
        for (int k = 0; k < 8; k++) {
            for (int more = 0; more < 1 << bits[k]; more++) {
                int distance = least[k] + more;
                StreamWriter stream = new StreamWriter().plain(before).lastOf(2).oneType(0).simple(5, 0);
                stream.simple(4, 0).simple(4, 4 + k).number(more, bits[k]);
                int first = before[64 - distance];
                int second = distance == 1 ? first : before[65 - distance];
                ContextUnfolder x = CHECK.unfolds("distance " + distance, stream, join(before, first, second));
                CHECK.counts("distance " + distance, x, 2, 64, 2, 0, 0, distance, 4, 11, 15);
            }
        }
    }

    /** Copies of two letters each, by the distance symbols 0, 1, 2, 3 and 4 (distances 1 and 2). */
    private static StreamWriter copies(int length) {
        StreamWriter stream = new StreamWriter().plain(RISING).lastOf(length).oneType(0).simple(5, 0);
        return stream.simple(4, 0).lengths(2, 2, 2, 3, 3);
    }

    private static void remembered() {
        ContextUnfolder x = CHECK.unfolds("0 is 4", copies(2).word("00"), join(RISING, 17, 18));
        CHECK.counts("0 is 4", x, 2, 20, 2, 0, 0, 4, 11, 15, 16);
        x = CHECK.unfolds("1 is 11", copies(2).word("01"), join(RISING, 10, 11));
        CHECK.counts("1 is 11", x, 2, 20, 2, 0, 0, 11, 4, 11, 15);
        x = CHECK.unfolds("2 is 15", copies(2).word("10"), join(RISING, 6, 7));
        CHECK.counts("2 is 15", x, 2, 20, 2, 0, 0, 15, 4, 11, 15);
        x = CHECK.unfolds("3 is 16", copies(2).word("110"), join(RISING, 5, 6));
        CHECK.counts("3 is 16", x, 2, 20, 2, 0, 0, 16, 4, 11, 15);
        x = CHECK.unfolds("2 is remembered", copies(2).word("111").number(1, 1), join(RISING, 19, 20));
        CHECK.counts("2 is remembered", x, 2, 20, 2, 0, 0, 2, 4, 11, 15);
        x = CHECK.unfolds("and is used again", copies(6).word("111").number(0, 1).word("00 01"),
                join(RISING, 20, 20, 20, 20, 20, 20));
        CHECK.counts("and is used again", x, 2, 20, 6, 0, 0, 4, 1, 4, 11);
        x = CHECK.unfolds("the same one twice", copies(4).word("111").number(0, 1).word("111").number(0, 1),
                join(RISING, 20, 20, 20, 20));
        CHECK.counts("the same one twice", x, 2, 20, 4, 0, 0, 1, 1, 4, 11);
    }

    private static void rememberedThroughBlocks() {
        StreamWriter stream = new StreamWriter().plain(RISING);
        stream.codedOf(2).oneType(0).simple(5, 0).simple(4, 0).simple(4, 1);
        stream.plain(30, 31);
        stream.lastOf(2).oneType(0).simple(5, 0).simple(4, 0).simple(4, 0);
        ContextUnfolder x = CHECK.unfolds("blocks leave what is remembered", stream,
                join(RISING, 10, 11, 30, 31, 14, 15));
        CHECK.counts("blocks leave what is remembered", x, 4, 22, 4, 0, 0, 11, 4, 11, 15);
        x.unfold();
        CHECK.counts("unfold() forgets", x, 4, 22, 4, 0, 0, 11, 4, 11, 15);
        StreamWriter alone = new StreamWriter().plain(RISING);
        alone.codedOf(2).oneType(0).simple(5, 0).simple(4, 0).simple(4, 1);
        int size = alone.size();
        ContextUnfolder y = alone.lastEmpty().unfolder();
        y.unfold();
        CHECK.counts("distances of a stream that is right", y, 3, 20, 2, 0, 0, 11, 4, 11, 15);
        y.cut(size);
        CHECK.refused("a wrong stream", IllegalArgumentException.class, y::unfold);
        CHECK.counts("distances stay", y, 3, 20, 2, 0, 0, 11, 4, 11, 15);
        y.cut(0);
        y.put(3, 2);
        y.unfold();
        CHECK.counts("an empty stream has the first distances", y, 1, 0, 0, 0, 0, 4, 11, 15, 16);
    }

    private static int[] word(int w, int length) {
        int[] letters = new int[length];
        for (int j = 0; j < length; j++) {
            letters[j] = (7 * w + 5 * length + 3 * j * j + j * w) % 32;
        }
        return letters;
    }

    /** A block of one piece on an empty output, of the length 3 .. 6 and at the distance 1 .. 60. */
    private static StreamWriter onePiece(int blockLength, int length, int distance) {
        StreamWriter stream = new StreamWriter().lastOf(blockLength).oneType(0).simple(5, 0);
        int c = length < 3 ? 0 : length < 5 ? 1 : length < 9 ? 2 : 3;
        int[] leastLength = {2, 3, 5, 9};
        int[] least = {1, 3, 5, 9, 13, 21, 29, 45, 61};
        int k = 0;
        while (distance >= least[k + 1]) {
            k++;
        }
        stream.simple(4, c).simple(4, 4 + k).number(length - leastLength[c], c);
        return stream.number(distance - least[k], 1 + k / 2);
    }

    private static void wordsAsTheyAre() {
        CHECK.unfolds("word 0 of 3", onePiece(3, 3, 1), 15, 18, 27);
        CHECK.unfolds("word 7 of 6", onePiece(6, 6, 8), 15, 25, 9, 31, 27, 29);
        for (int w = 0; w < 8; w++) {
            for (int length = 3; length <= 6; length++) {
                ContextUnfolder x = CHECK.unfolds("word " + w, onePiece(length, length, w + 1), word(w, length));
                CHECK.counts("word " + w, x, 1, 0, 0, length, 0, 4, 11, 15, 16);
            }
        }
    }

    private static void alteredWords() {
        for (int i = 8; i < 40; i++) {
            for (int length = 3; length <= 6; length++) {
                int[] due = word(i % 8, length);
                if (i < 16) {
                    due[0] ^= 1;
                } else if (i < 24) {
                    due = java.util.Arrays.copyOfRange(due, 1, length);
                } else if (i < 32) {
                    due = java.util.Arrays.copyOf(due, length - 1);
                } else {
                    due = java.util.Arrays.copyOf(due, length + 1);
                }
                ContextUnfolder x = CHECK.unfolds("word at " + i, onePiece(due.length, length, i + 1), due);
                CHECK.counts("word at " + i, x, 1, 0, 0, due.length, 0, 4, 11, 15, 16);
            }
        }
    }

    private static void wrongWords() {
        for (int i = 40; i < 60; i++) {
            StreamWriter stream = onePiece(200, 4, i + 1);
            CHECK.wrong("no word at " + i, copy(stream).number(0, 24), stream.size());
        }
        for (int length = 2; length <= 16; length++) {
            if (length < 3 || length > 6) {
                StreamWriter stream = onePiece(200, length, 1);
                CHECK.wrong("no word of " + length, copy(stream).number(0, 24), stream.size());
            }
        }
    }

    private static void wordsThatAreTooLong() {
        int[] more = {0, 0, -1, -1, 1};
        for (int i = 0; i < 40; i++) {
            for (int length = 3; length <= 6; length++) {
                StreamWriter stream = onePiece(length + more[i / 8] - 1, length, i + 1);
                CHECK.wrong("word at " + i + " is too long", copy(stream).number(0, 24), stream.size());
            }
        }
    }

    private static void wordsAreNotRemembered() {
        StreamWriter told = new StreamWriter().plain(1, 2).lastOf(6).oneType(0).simple(5, 0);
        told.simple(4, 1).simple(4, 1, 5);
        told.number(0, 1).word("1").number(1, 1);
        told.number(0, 1).word("0");
        // With two letters 4 back is word 1, with five 11 back is word 5.
        ContextUnfolder x = CHECK.unfolds("words by told and by remembered distances", told,
                join(join(new int[] {1, 2}, word(1, 3)), word(5, 3)));
        CHECK.counts("words by told and by remembered distances", x, 2, 2, 0, 6, 0, 4, 11, 15, 16);
        StreamWriter latest = new StreamWriter().plain(1, 2, 3).lastOf(3).oneType(0).simple(5, 0);
        latest.simple(4, 1).simple(4, 0).number(0, 1);
        CHECK.unfolds("the latest distance can be a word's", latest, join(new int[] {1, 2, 3}, word(0, 3)));
        StreamWriter just = new StreamWriter().plain(1, 2, 3, 9).lastOf(3).oneType(0).simple(5, 0);
        just.simple(4, 1).simple(4, 0).number(0, 1);
        CHECK.unfolds("at the length of the output it is a copy", just, 1, 2, 3, 9, 1, 2, 3);
    }
}
