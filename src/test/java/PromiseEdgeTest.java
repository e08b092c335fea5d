/** Promises 1 to 9: every boundary case that one of them names, each in a method of its own. */
final class PromiseEdgeTest {
    private static final Check CHECK = new Check();
    private static final Class<IllegalArgumentException> ARGUMENT = IllegalArgumentException.class;
    private static final Class<IllegalStateException> STATE = IllegalStateException.class;
    private static final Class<IndexOutOfBoundsException> INDEX = IndexOutOfBoundsException.class;
    private static final int[] NO_INDEX = {-1, -2, Integer.MIN_VALUE, Integer.MAX_VALUE};
    private static final int[] COUNTS_BEFORE = {0, 0, 0, 0, 0, 4, 11, 15, 16};

    public static void main(String[] args) {
        newObjectIsEmpty();
        putTakesEveryNumberOfItsBits();
        putRefusesWidths();
        putRefusesNumbersThatAreTooLarge();
        putFillsTheStreamToItsLastBit();
        putLooksAtItsNumberBeforeTheRoom();
        putLeavesTheOutput();
        bitsThatAreNotThere();
        flipsThatAreNotThere();
        flipTwiceIsNone();
        cutToAllAndToNothing();
        cutRefused();
        cutBitsAreGone();
        unfoldOfNoBits();
        unfoldLeavesTheStream();
        unfoldLooksAtNothingBehindTheLastBlock();
        wrongUnfoldLeavesTheOutput();
        unfoldStartsAnew();
        takenBeforeAnyUnfold();
        takenStaysUntilTheNextUnfold();
        takenOfAWrongStream();
        lettersThatAreNotThere();
        countsBeforeAnyRightUnfold();
        countsThatAreNotThere();
        countsOfTheLatestRightUnfold();
        fiveHundredAndTwelveCalls();
        CHECK.end();
    }

    private static StreamWriter threeLetters() {
        return new StreamWriter().plain(4, 5, 6).lastEmpty();
    }

    /** An object whose stream has so many bits, all of them 0. */
    private static ContextUnfolder zeros(int size) {
        ContextUnfolder x = new ContextUnfolder();
        for (int left = size; left > 0; left -= 24) {
            x.put(0, Math.min(24, left));
        }
        return x;
    }

    private static void sizeIs(String what, ContextUnfolder x, int due) {
        CHECK.equal(what + ": put(0, 0)", x.put(0, 0), due);
    }

    private static void newObjectIsEmpty() {
        sizeIs("promise 1, no bits", new ContextUnfolder(), 0);
        CHECK.refused("promise 1, no bit", INDEX, () -> new ContextUnfolder().bit(0));
        CHECK.refused("promise 1, no letter", INDEX, () -> new ContextUnfolder().letter(0));
        CHECK.equal("promise 1, nothing taken", new ContextUnfolder().taken(), 0);
        CHECK.counts("promise 1", new ContextUnfolder(), COUNTS_BEFORE);
    }

    private static void putTakesEveryNumberOfItsBits() {
        for (int n = 0; n <= 24; n++) {
            int most = (1 << n) - 1;
            ContextUnfolder x = new ContextUnfolder();
            CHECK.equal("promise 2, put(" + most + ", " + n + ")", x.put(most, n), n);
            CHECK.equal("promise 2, put(0, " + n + ")", x.put(0, n), 2 * n);
            for (int i = 0; i < 2 * n; i++) {
                CHECK.equal("promise 2, bit(" + i + ")", x.bit(i) ? 1 : 0, i < n ? 1 : 0);
            }
            for (int one = 0; one < n; one++) {
                ContextUnfolder y = new ContextUnfolder();
                y.put(1 << one, n);
                for (int i = 0; i < n; i++) {
                    CHECK.equal("promise 2, the lowest bit first", y.bit(i) ? 1 : 0, i == one ? 1 : 0);
                }
            }
        }
    }

    private static void putRefusesWidths() {
        ContextUnfolder x = new ContextUnfolder();
        x.put(5, 3);
        for (int n : new int[] {-1, -24, 25, 31, 32, 33, 56, 64, Integer.MIN_VALUE, Integer.MAX_VALUE}) {
            CHECK.refused("promise 2, put(0, " + n + ")", ARGUMENT, () -> x.put(0, n));
        }
        sizeIs("promise 2, a refused put leaves the stream", x, 3);
    }

    private static void putRefusesNumbersThatAreTooLarge() {
        ContextUnfolder x = new ContextUnfolder();
        x.put(5, 3);
        for (int width = 0; width <= 24; width++) {
            int n = width;
            for (int v : new int[] {1 << n, (1 << n) + 1, -1, -(1 << n), Integer.MIN_VALUE, Integer.MAX_VALUE}) {
                CHECK.refused("promise 2, put(" + v + ", " + n + ")", ARGUMENT, () -> x.put(v, n));
            }
        }
        sizeIs("promise 2, a refused put leaves the stream", x, 3);
    }

    private static void putFillsTheStreamToItsLastBit() {
        for (int width = 1; width <= 24; width++) {
            int n = width;
            ContextUnfolder x = zeros(2001 - n);
            CHECK.refused("promise 2, " + n + " bits with room for one less", STATE, () -> x.put(0, n));
            sizeIs("promise 2, a refused put leaves the stream", x, 2001 - n);
            CHECK.equal("promise 2, one bit less", x.put((1 << (n - 1)) - 1, n - 1), 2000);
            CHECK.refused("promise 2, bit 2001", STATE, () -> x.put(1, 1));
            sizeIs("promise 2, no bits find room in a full stream", x, 2000);
            CHECK.equal("promise 2, the last bit", x.bit(1999) ? 1 : 0, n > 1 ? 1 : 0);
        }
    }

    private static void putLooksAtItsNumberBeforeTheRoom() {
        ContextUnfolder x = zeros(2000);
        CHECK.refused("promise 2, 25 bits for a full stream", ARGUMENT, () -> x.put(0, 25));
        CHECK.refused("promise 2, a wrong number for a full stream", ARGUMENT, () -> x.put(2, 1));
        CHECK.refused("promise 2, one bit for a full stream", STATE, () -> x.put(1, 1));
    }

    private static void putLeavesTheOutput() {
        ContextUnfolder x = threeLetters().unfolder();
        x.unfold();
        x.put(3, 2);
        CHECK.refused("promise 2, a refused put", ARGUMENT, () -> x.put(0, 25));
        CHECK.equal("promise 2, the output stays", x.letter(2), 6);
        CHECK.refused("promise 2, the output stays", INDEX, () -> x.letter(3));
        CHECK.counts("promise 2, the output stays", x, 2, 3, 0, 0, 0, 4, 11, 15, 16);
    }

    private static void bitsThatAreNotThere() {
        for (int size : new int[] {0, 1, 24, 25, 1999, 2000}) {
            ContextUnfolder x = zeros(size);
            CHECK.refused("promise 3, bit(" + size + ")", INDEX, () -> x.bit(size));
            for (int i : NO_INDEX) {
                CHECK.refused("promise 3, bit(" + i + ")", INDEX, () -> x.bit(i));
            }
            if (size > 0) {
                CHECK.isTrue("promise 3, the last of " + size, !x.bit(size - 1) && !x.bit(0));
            }
        }
    }

    private static void flipsThatAreNotThere() {
        for (int size : new int[] {0, 1, 24, 25, 1999, 2000}) {
            ContextUnfolder x = zeros(size);
            CHECK.refused("promise 4, flip(" + size + ")", INDEX, () -> x.flip(size));
            for (int i : NO_INDEX) {
                CHECK.refused("promise 4, flip(" + i + ")", INDEX, () -> x.flip(i));
            }
            for (int i = 0; i < size; i++) {
                CHECK.isTrue("promise 4, a refused flip leaves bit " + i, !x.bit(i));
            }
            sizeIs("promise 4, a refused flip leaves the size", x, size);
            if (size > 0) {
                x.flip(size - 1);
                CHECK.isTrue("promise 4, the last of " + size, x.bit(size - 1));
            }
        }
    }

    private static void flipTwiceIsNone() {
        StreamWriter stream = threeLetters();
        for (int i = 0; i < stream.size(); i++) {
            ContextUnfolder x = stream.unfolder();
            ContextUnfolder y = stream.unfolder();
            x.flip(i);
            for (int k = 0; k < stream.size(); k++) {
                CHECK.isTrue("promise 4, flip(" + i + ") and bit " + k, (x.bit(k) != y.bit(k)) == (k == i));
            }
            x.flip(i);
            CHECK.equal("promise 4, flip(" + i + ") twice", x.unfold(), 3);
        }
    }

    private static void cutToAllAndToNothing() {
        for (int size : new int[] {0, 1, 24, 2000}) {
            ContextUnfolder x = zeros(size);
            CHECK.equal("promise 5, all stay", x.cut(size), 0);
            CHECK.equal("promise 5, all go", x.cut(0), size);
            CHECK.equal("promise 5, none is left", x.cut(0), 0);
            CHECK.refused("promise 5, none is left", INDEX, () -> x.bit(0));
        }
    }

    private static void cutRefused() {
        for (int size : new int[] {0, 1, 24, 2000}) {
            ContextUnfolder x = zeros(size);
            CHECK.refused("promise 5, it has one less", ARGUMENT, () -> x.cut(size + 1));
            for (int n : NO_INDEX) {
                CHECK.refused("promise 5, cut(" + n + ")", ARGUMENT, () -> x.cut(n));
            }
            sizeIs("promise 5, a refused cut leaves the stream", x, size);
        }
    }

    private static void cutBitsAreGone() {
        ContextUnfolder x = new ContextUnfolder();
        x.put(16777215, 24);
        CHECK.equal("promise 5, cut(5)", x.cut(5), 19);
        CHECK.refused("promise 5, bit(5)", INDEX, () -> x.bit(5));
        CHECK.refused("promise 5, flip(5)", INDEX, () -> x.flip(5));
        CHECK.refused("promise 5, cut(6)", ARGUMENT, () -> x.cut(6));
        CHECK.equal("promise 5, put(0, 4)", x.put(0, 4), 9);
        for (int i = 0; i < 9; i++) {
            CHECK.equal("promise 5, bit(" + i + ")", x.bit(i) ? 1 : 0, i < 5 ? 1 : 0);
        }
        ContextUnfolder y = threeLetters().unfolder();
        y.unfold();
        y.cut(0);
        CHECK.equal("promise 5, cut leaves the output", y.letter(0), 4);
        CHECK.refused("promise 5, bits that were cut are not read", ARGUMENT, y::unfold);
        CHECK.equal("promise 5, bits that were cut are not taken", y.taken(), 0);
    }

    private static void unfoldOfNoBits() {
        ContextUnfolder x = new ContextUnfolder();
        CHECK.refused("promise 6, no bits", ARGUMENT, x::unfold);
        CHECK.equal("promise 7, no bits", x.taken(), 0);
        x.put(1, 1);
        CHECK.refused("promise 6, one bit", ARGUMENT, x::unfold);
        CHECK.equal("promise 7, one bit", x.taken(), 1);
        x.put(1, 1);
        CHECK.equal("promise 6, two bits", x.unfold(), 0);
        CHECK.equal("promise 7, two bits", x.taken(), 2);
    }

    private static void unfoldLeavesTheStream() {
        StreamWriter stream = threeLetters();
        ContextUnfolder x = stream.unfolder();
        ContextUnfolder y = stream.unfolder();
        x.unfold();
        sizeIs("promise 6, the stream stays", x, stream.size());
        for (int i = 0; i < stream.size(); i++) {
            CHECK.isTrue("promise 6, bit " + i + " stays", x.bit(i) == y.bit(i));
        }
        CHECK.equal("promise 6, unfold() again", x.unfold(), 3);
        CHECK.equal("promise 7, unfold() again", x.taken(), stream.size());
    }

    private static void unfoldLooksAtNothingBehindTheLastBlock() {
        int size = threeLetters().size();
        for (int v : new int[] {0, 1, 2, 3, 16777215}) {
            ContextUnfolder x = threeLetters().number(v, 24).unfolder();
            CHECK.equal("promise 6, " + v + " behind the last block", x.unfold(), 3);
            CHECK.equal("promise 7, " + v + " behind the last block", x.taken(), size);
            CHECK.counts("promise 9, " + v + " behind the last block", x, 2, 3, 0, 0, 0);
        }
    }

    private static void wrongUnfoldLeavesTheOutput() {
        ContextUnfolder x = threeLetters().unfolder();
        x.unfold();
        x.cut(0);
        StreamWriter longer = new StreamWriter().plain(1, 2, 3, 7, 8, 9);
        longer.codedOf(2).oneType(0).simple(5, 0).simple(4, 0).simple(4, 4).number(1, 1);
        longer.putInto(x);
        for (int times = 0; times < 3; times++) {
            CHECK.refused("promise 6, a wrong stream", ARGUMENT, x::unfold);
            CHECK.equal("promise 7, a wrong stream", x.taken(), longer.size());
            for (int i = 0; i < 3; i++) {
                CHECK.equal("promise 6, letter(" + i + ") stays", x.letter(i), 4 + i);
            }
            CHECK.refused("promise 6, letter(3) is not there", INDEX, () -> x.letter(3));
            CHECK.counts("promise 9, a wrong stream", x, 2, 3, 0, 0, 0, 4, 11, 15, 16);
        }
        x.put(3, 2);
        CHECK.equal("promise 6, the stream goes on and is right", x.unfold(), 8);
        CHECK.equal("promise 8, the stream goes on and is right", x.letter(7), 9);
        CHECK.counts("promise 9, the stream goes on and is right", x, 3, 6, 2, 0, 0, 2, 4, 11, 15);
    }

    private static void unfoldStartsAnew() {
        StreamWriter stream = new StreamWriter().plain(1, 2, 3, 7, 8, 9);
        stream.lastOf(2).oneType(0).simple(5, 0).simple(4, 0).simple(4, 4).number(0, 1);
        ContextUnfolder x = stream.unfolder();
        for (int times = 0; times < 4; times++) {
            CHECK.equal("promise 6, no letter of the unfold() before", x.unfold(), 8);
            CHECK.counts("promise 9, nothing of the unfold() before", x, 2, 6, 2, 0, 0, 1, 4, 11, 15);
        }
        x.cut(0);
        x.put(3, 2);
        CHECK.equal("promise 6, an empty last block", x.unfold(), 0);
        CHECK.refused("promise 8, an empty last block", INDEX, () -> x.letter(0));
        CHECK.counts("promise 9, an empty last block", x, 1, 0, 0, 0, 0, 4, 11, 15, 16);
    }

    private static void takenBeforeAnyUnfold() {
        ContextUnfolder x = threeLetters().unfolder();
        CHECK.equal("promise 7, before unfold()", x.taken(), 0);
        x.flip(0);
        x.cut(1);
        CHECK.equal("promise 7, still before unfold()", x.taken(), 0);
    }

    private static void takenStaysUntilTheNextUnfold() {
        StreamWriter stream = threeLetters();
        ContextUnfolder x = stream.unfolder();
        x.unfold();
        x.put(5, 3);
        x.flip(3);
        CHECK.refused("promise 7, a refused put", ARGUMENT, () -> x.put(2, 1));
        x.cut(4);
        CHECK.equal("promise 7, taken() can be more than the stream has", x.taken(), stream.size());
        CHECK.refused("promise 7, four bits", ARGUMENT, x::unfold);
        CHECK.equal("promise 7, the length was wanted together", x.taken(), 1);
        x.cut(0);
        CHECK.equal("promise 7, that stays as well", x.taken(), 1);
    }

    private static void takenOfAWrongStream() {
        StreamWriter stream = new StreamWriter().plain(1, 2);
        stream.lastOf(8).number(1, 2).lengths(2, 2, 2, 2).number(0, 5).number(1, 2).number(2, 2).number(1, 2);
        for (int k = 0; k < 8; k++) {
            stream.number(0, 2);
        }
        stream.number(0, 1).simple(5, 1, 2, 3, 4).word("1").lengths(1, 1);
        stream.simple(4, 8, 12, 2).simple(4, 0, 5);
        // Seven letters, of stretches of 1, 5 and 2, and a copy of 2, of which one letter is too many.
        stream.word("11").number(0, 3);
        stream.word("0").word("10").number(4, 5).word("110 111 0 10 110").word("00").number(1, 5).word("0");
        stream.word("1").number(1, 1);
        int size = stream.size();
        CHECK.wrong("promise 7, more than the block's length", stream, size);
        for (int n = 0; n < size; n++) {
            CHECK.wrong("promise 7, the first " + n + " bits", stream.first(n), stream.startOf(n));
        }
    }

    private static void lettersThatAreNotThere() {
        for (int size : new int[] {1, 2, 255, 256}) {
            ContextUnfolder x = new StreamWriter().plainRun(31, size).lastEmpty().unfolder();
            CHECK.refused("promise 8, letter(0) before unfold()", INDEX, () -> x.letter(0));
            CHECK.equal("promise 6, " + size + " letters", x.unfold(), size);
            CHECK.equal("promise 8, the first one", x.letter(0), 31);
            CHECK.equal("promise 8, the last one", x.letter(size - 1), 31);
            CHECK.refused("promise 8, letter(" + size + ")", INDEX, () -> x.letter(size));
            for (int i : NO_INDEX) {
                CHECK.refused("promise 8, letter(" + i + ")", INDEX, () -> x.letter(i));
            }
        }
        ContextUnfolder x = threeLetters().unfolder();
        x.unfold();
        x.cut(0);
        new StreamWriter().plain(9).lastEmpty().putInto(x);
        CHECK.equal("promise 6, a shorter output", x.unfold(), 1);
        CHECK.equal("promise 8, a shorter output", x.letter(0), 9);
        CHECK.refused("promise 8, the letters of the longer one are gone", INDEX, () -> x.letter(1));
    }

    private static void countsBeforeAnyRightUnfold() {
        StreamWriter stream = new StreamWriter().plain(1, 2, 3, 7, 8, 9);
        stream.codedOf(2).oneType(0).simple(5, 0).simple(4, 0).simple(4, 4).number(1, 1);
        ContextUnfolder x = stream.unfolder();
        CHECK.counts("promise 9, before unfold()", x, COUNTS_BEFORE);
        CHECK.refused("promise 9, a wrong stream", ARGUMENT, x::unfold);
        CHECK.counts("promise 9, behind a wrong one alone", x, COUNTS_BEFORE);
        CHECK.refused("promise 8, behind a wrong one alone", INDEX, () -> x.letter(0));
    }

    private static void countsThatAreNotThere() {
        ContextUnfolder x = threeLetters().unfolder();
        for (int times = 0; times < 2; times++) {
            for (int which : new int[] {-1, 9, 10, 13, Integer.MIN_VALUE, Integer.MAX_VALUE}) {
                CHECK.refused("promise 9, count(" + which + ")", ARGUMENT, () -> x.count(which));
            }
            CHECK.equal("promise 9, count(8)", x.count(8), 16);
            CHECK.equal("promise 9, count(0)", x.count(0), 2 * times);
            x.unfold();
        }
    }

    private static void countsOfTheLatestRightUnfold() {
        StreamWriter stream = new StreamWriter().plain(1, 2, 3);
        stream.lastOf(10).number(1, 2).simple(2, 1).number(0, 5).number(0, 2).number(0, 2).number(0, 2);
        stream.simple(5, 20).simple(4, 4, 1).simple(4, 3, 4);
        stream.word("1").number(0, 1).word("1").number(1, 1);
        stream.word("1").number(1, 1).number(31, 5).word("1").number(0, 1);
        stream.word("0").number(0, 1).word("0");
        ContextUnfolder x = CHECK.unfolds("promise 9, all of the counts", stream,
                1, 2, 3, 20, 3, 20, 20, 20, 20, 20, 15, 18, 27);
        CHECK.counts("promise 9, all of the counts", x, 2, 6, 4, 3, 1, 1, 2, 4, 11);
    }

    private static void fiveHundredAndTwelveCalls() {
        ContextUnfolder x = threeLetters().unfolder();
        int size = threeLetters().size();
        for (int k = 0; k < 250; k++) {
            CHECK.equal("512 calls: unfold()", x.unfold(), 3);
            CHECK.equal("512 calls: taken()", x.taken(), size);
        }
    }
}
