import java.util.Arrays;

/** The section 'Terms': every boundary case that one of its sentences names, each in a method of its own. */
final class TermsEdgeTest {
    private static final Check CHECK = new Check();

    public static void main(String[] args) {
        streamOf2000Bits();
        outputOf400Letters();
        shortestAndLongestBlocks();
        asManyBlocksAsThereCanBe();
        simpleSymbolNotBelowTheAlphabet();
        simpleSymbolThereBefore();
        greatestSymbolOfEveryAlphabet();
        tooLittleRoomAtEverySymbol();
        roomLeftBehindTheLastSymbol();
        noRoomLeftAtTheLastSymbol();
        lengthsEndWhenNoRoomIsLeft();
        singleSymbolsHaveNoBits();
        codesAreToldAnew();
        fourTypes();
        stretchesOf1And32();
        mapNumbersNotBelowTheCodes();
        placesOfTwoAndThreeCodes();
        rowOfPlacesBeginsAnew();
        oneLetterCodeNeedsNoMap();
        numbersAreReadBeforeTheLetters();
        insertedBeyondTheBlock();
        copiedBeyondTheBlock();
        blockIsFullBehindItsLetters();
        typesWrapAround();
        typeBeforeForTheFirstTime();
        contextsWithNoLettersBefore();
        distanceOfTheWholeOutput();
        oldestDistanceGoes();
        wordLengths();
        wordAlterations();
        CHECK.end();
    }

    private static StreamWriter copy(StreamWriter stream) {
        return new StreamWriter().append(stream);
    }

    /** A last block of one type up to its letter code. */
    private static StreamWriter lastUpToCodes(int length) {
        return new StreamWriter().lastOf(length).oneType(0);
    }

    /** What stands before each kind of code, and how many symbols it is over. */
    private static StreamWriter[] beforeCodes() {
        return new StreamWriter[] {
            new StreamWriter().lastOf(3).number(1, 2),
            new StreamWriter().lastOf(3).number(2, 2),
            lastUpToCodes(3),
            lastUpToCodes(3).simple(5, 1),
            lastUpToCodes(3).simple(5, 1).simple(4, 8),
        };
    }

    private static final int[] ALPHABETS = {4, 5, 32, 16, 12};
    private static final int[] WIDTHS = {2, 3, 5, 4, 4};

    /** Nothing is wrong up to here: what comes next is taken as well. */
    private static void goesOn(String what, StreamWriter stream, StreamWriter next) {
        StreamWriter whole = copy(stream).append(next);
        ContextUnfolder x = whole.unfolder();
        try {
            x.unfold();
        } catch (IllegalArgumentException e) {
            // The stream may end too early, but not before what comes next.
        }
        CHECK.equal(what + ": taken()", x.taken(), whole.size());
    }

    /** What comes behind each kind of code: a stretch, the command code, the distance code, a command's number. */
    private static StreamWriter behindCode(int kind) {
        StreamWriter next = new StreamWriter();
        return kind < 2 ? next.number(31, 5) : kind < 4 ? next.simple(4, 8) : next.number(0, 2);
    }

    private static void streamOf2000Bits() {
        StreamWriter stream = new StreamWriter().plainRun(3, 256).lastOf(132).oneType(0);
        int[] five = new int[32];
        Arrays.fill(five, 5);
        stream.lengths(five).simple(4, 12).simple(4, 0);
        for (int k = 0; k < 11; k++) {
            stream.number(3, 3);
            for (int letter = 0; letter < 10; letter++) {
                stream.word("11111");
            }
        }
        CHECK.equal("2000 bits", stream.size(), 2000);
        ContextUnfolder x = stream.unfolder();
        CHECK.equal("2000 bits: unfold()", x.unfold(), 388);
        CHECK.equal("2000 bits: taken()", x.taken(), 2000);
        CHECK.equal("2000 bits: the last letter", x.letter(387), 31);
        x.flip(1999);
        CHECK.equal("the last bit is read: unfold()", x.unfold(), 388);
        CHECK.equal("the last bit is read", x.letter(385), 30);
        x.cut(1999);
        CHECK.refused("1999 bits", IllegalArgumentException.class, x::unfold);
        CHECK.equal("1999 bits: taken()", x.taken(), 1999);
        StreamWriter open = new StreamWriter().plainRun(3, 256).plainRun(4, 140);
        CHECK.wrong("2000 bits without a last block", open, 2000);
    }

    /** 256 letters in a block that is not last: commands that insert 14 letters 2 and copy two from 4 back. */
    private static StreamWriter coded256() {
        StreamWriter stream = new StreamWriter().codedOf(256).oneType(0).simple(5, 2).simple(4, 12).simple(4, 0);
        for (int k = 0; k < 16; k++) {
            stream.number(7, 3);
        }
        return stream;
    }

    private static void outputOf400Letters() {
        StreamWriter full = coded256().plainRun(1, 144);
        ContextUnfolder x = copy(full).lastEmpty().unfolder();
        CHECK.equal("400 letters", x.unfold(), 400);
        for (int length : new int[] {1, 2, 255, 256}) {
            CHECK.wrongAtOnce("a last block behind 400", copy(full).lastOf(length));
            CHECK.wrongAtOnce("a block behind 400", copy(full).word("0").number(length - 1, 8));
        }
        CHECK.wrongAtOnce("256 and 145", coded256().word("0").number(144, 8));
        CHECK.wrongAtOnce("256 and 145, last", coded256().lastOf(145));
        CHECK.wrongAtOnce("256 and 256, last", coded256().lastOf(256));
        StreamWriter last = coded256().lastOf(144).oneType(0).simple(5, 9).simple(4, 12).simple(4, 0);
        for (int k = 0; k < 9; k++) {
            last.number(7, 3);
        }
        ContextUnfolder y = last.unfolder();
        CHECK.equal("256 and 144, last", y.unfold(), 400);
        CHECK.equal("256 and 144, last: letter(399)", y.letter(399), 9);
        CHECK.refused("letter(400)", IndexOutOfBoundsException.class, () -> y.letter(400));
    }

    private static void shortestAndLongestBlocks() {
        CHECK.unfolds("plain, of one letter", new StreamWriter().plain(31).lastEmpty(), 31);
        int[] long1 = new int[256];
        for (int k = 0; k < 256; k++) {
            long1[k] = k * 7 % 32;
        }
        CHECK.unfolds("plain, of 256 letters", new StreamWriter().plain(long1).lastEmpty(), long1);
        CHECK.unfolds("coded, of one letter",
                new StreamWriter().codedOf(1).oneType(0).simple(5, 30).simple(4, 4).simple(4, 0).number(0, 1).lastEmpty(),
                30);
        CHECK.unfolds("last, of one letter", lastUpToCodes(1).simple(5, 30).simple(4, 4).simple(4, 0).number(0, 1), 30);
        int[] long2 = new int[256];
        Arrays.fill(long2, 2);
        StreamWriter last = lastUpToCodes(256).simple(5, 2).simple(4, 12).simple(4, 0);
        for (int k = 0; k < 16; k++) {
            last.number(7, 3);
        }
        CHECK.unfolds("last, of 256 letters", last, long2);
        CHECK.unfolds("coded, of 256 letters", coded256().lastEmpty(), long2);
    }

    private static void asManyBlocksAsThereCanBe() {
        StreamWriter stream = new StreamWriter();
        int[] due = new int[133];
        for (int k = 0; k < 133; k++) {
            due[k] = k % 32;
            stream.plain(due[k]);
        }
        ContextUnfolder x = CHECK.unfolds("blocks of one letter", stream.lastEmpty(), due);
        CHECK.counts("blocks of one letter", x, 134, 133, 0, 0, 0, 4, 11, 15, 16);
    }

    private static void simpleSymbolNotBelowTheAlphabet() {
        for (int kind = 0; kind < 5; kind++) {
            for (int symbol = ALPHABETS[kind]; symbol < 1 << WIDTHS[kind]; symbol++) {
                for (int at = 0; at < 4; at++) {
                    for (int many = at + 1; many <= 4; many++) {
                        StreamWriter stream = beforeCodes()[kind].word("1").number(many - 1, 2);
                        for (int k = 0; k < at; k++) {
                            stream.number(k, WIDTHS[kind]);
                        }
                        stream.number(symbol, WIDTHS[kind]);
                        CHECK.wrongAtOnce("symbol " + symbol + " of " + ALPHABETS[kind], stream);
                    }
                }
            }
        }
    }

    private static void simpleSymbolThereBefore() {
        for (int kind = 0; kind < 5; kind++) {
            for (int at = 1; at < 4; at++) {
                for (int before = 0; before < at; before++) {
                    StreamWriter stream = beforeCodes()[kind].word("1").number(3, 2);
                    for (int k = 0; k < at; k++) {
                        stream.number(3 - k, WIDTHS[kind]);
                    }
                    stream.number(3 - before, WIDTHS[kind]);
                    CHECK.wrongAtOnce("symbol " + at + " is symbol " + before, stream);
                }
            }
        }
    }

    private static void greatestSymbolOfEveryAlphabet() {
        for (int kind = 0; kind < 5; kind++) {
            StreamWriter stream = beforeCodes()[kind].simple(WIDTHS[kind], ALPHABETS[kind] - 1, 0);
            goesOn("the greatest symbol of " + ALPHABETS[kind], stream, behindCode(kind));
        }
    }

    private static void tooLittleRoomAtEverySymbol() {
        int[][] most = {{1, 2, 1}, {1, 2, 3, 2}, {2, 2, 2, 1}, {7, 1, 1}, {0, 1, 3, 3, 1}};
        for (int kind = 0; kind < 5; kind++) {
            for (int[] lengths : most) {
                if (lengths.length <= ALPHABETS[kind]) {
                    CHECK.wrongAtOnce("too little room for " + Arrays.toString(lengths),
                            beforeCodes()[kind].lengths(lengths));
                }
            }
            int[] late = new int[ALPHABETS[kind]];
            late[0] = 1;
            late[late.length - 2] = 2;
            late[late.length - 1] = 1;
            CHECK.wrongAtOnce("too little room for the last of " + late.length, beforeCodes()[kind].lengths(late));
        }
        CHECK.wrongAtOnce("one too little of 128", beforeCodes()[2].lengths(1, 2, 3, 4, 5, 6, 7, 6));
    }

    private static void roomLeftBehindTheLastSymbol() {
        for (int kind = 0; kind < 5; kind++) {
            int symbols = ALPHABETS[kind];
            CHECK.wrongAtOnce("no lengths at all of " + symbols, beforeCodes()[kind].lengths(new int[symbols]));
            int[] one = new int[symbols];
            one[symbols - 1] = 1;
            CHECK.wrongAtOnce("one length of " + symbols, beforeCodes()[kind].lengths(one));
            int[] less = new int[symbols];
            less[0] = 1;
            less[symbols - 1] = 2;
            CHECK.wrongAtOnce("a quarter left of " + symbols, beforeCodes()[kind].lengths(less));
        }
        CHECK.wrongAtOnce("one left of 128",
                beforeCodes()[2].lengths(Arrays.copyOf(new int[] {1, 2, 3, 4, 5, 6, 7}, 32)));
    }

    private static void noRoomLeftAtTheLastSymbol() {
        for (int kind = 0; kind < 5; kind++) {
            int[] lengths = new int[ALPHABETS[kind]];
            lengths[0] = 2;
            lengths[lengths.length - 2] = 1;
            lengths[lengths.length - 1] = 2;
            goesOn("no room left at the last of " + lengths.length, beforeCodes()[kind].lengths(lengths),
                    behindCode(kind));
        }
    }

    private static void lengthsEndWhenNoRoomIsLeft() {
        StreamWriter stream = lastUpToCodes(5).lengths(1, 1).lengths(0, 0, 0, 0, 0, 0, 0, 0, 1, 1).lengths(1, 1);
        stream.word("0").number(2, 2).word("1 0 0 1 1");
        CHECK.unfolds("no lengths behind the last word", stream, 1, 0, 0, 1, 1);
    }

    private static void singleSymbolsHaveNoBits() {
        StreamWriter stream = new StreamWriter().lastOf(24).number(1, 2).simple(2, 1).number(0, 5);
        stream.number(0, 2).number(0, 2).number(0, 2).simple(5, 9).simple(4, 0).simple(4, 0);
        int size = stream.size();
        CHECK.wrong("four letters back is a word's, of 2", stream, size);
        StreamWriter words = lastUpToCodes(6).simple(5, 9).simple(4, 1).simple(4, 0).number(0, 1).number(0, 1);
        CHECK.unfolds("words with a bit each", words, 4, 10, 22, 15, 18, 27);
        int[] due = new int[32];
        for (int k = 0; k < 32; k++) {
            due[k] = k % 4;
        }
        CHECK.unfolds("commands without a bit", new StreamWriter().plain(0, 1, 2, 3).lastOf(28).oneType(0)
                .simple(5, 9).simple(4, 0).simple(4, 0), due);
    }

    private static void codesAreToldAnew() {
        StreamWriter stream = new StreamWriter().codedOf(3).oneType(0);
        stream.lengths(7, 7, 6, 5, 4, 3, 2, 1).lengths(0, 0, 0, 0, 0, 0, 0, 0, 1, 1).lengths(1, 2, 2);
        stream.word("0").number(0, 2).word("0 10 1111111");
        stream.lastOf(3).oneType(0).simple(5, 1, 0).simple(4, 8).simple(4, 11).number(0, 2).word("1 0 1");
        CHECK.unfolds("a block's codes are its own", stream, 7, 6, 1, 1, 0, 1);
    }

    private static void fourTypes() {
        CHECK.wrongAtOnce("four types", new StreamWriter().lastOf(1).number(3, 2));
        CHECK.wrongAtOnce("four types in a block that is not last", new StreamWriter().codedOf(1).number(3, 2));
        for (int types = 1; types <= 3; types++) {
            StreamWriter stream = new StreamWriter().lastOf(1).number(types - 1, 2);
            goesOn(types + " types", stream, types == 1 ? new StreamWriter().number(0, 2) : new StreamWriter().word("1"));
        }
    }

    /** Two types, with the letters 10 and 11, and a change of types without a bit. */
    private static StreamWriter twoTypes(int length, int firstStretch) {
        StreamWriter stream = new StreamWriter().lastOf(length).number(1, 2).simple(2, 1).number(firstStretch - 1, 5);
        stream.number(0, 2).number(0, 2).number(1, 2);
        for (int k = 0; k < 8; k++) {
            stream.number(k / 4, 2);
        }
        return stream.number(0, 1).simple(5, 10).simple(5, 11).simple(4, 12, 8).simple(4, 4);
    }

    private static void stretchesOf1And32() {
        // Commands of 14 letters and a piece of 2; 32 letters are inserted behind two of these and four more.
        StreamWriter stream = twoTypes(14 + 2 + 14 + 2 + 14 + 2 + 14, 32);
        int[] due = new int[62];
        Arrays.fill(due, 10);
        stream.word("1").number(7, 3).number(0, 1).word("1").number(7, 3).number(0, 1);
        stream.word("1").number(7, 3).number(31, 5).number(0, 1).word("1").number(7, 3);
        Arrays.fill(due, 36, 62, 11);
        ContextUnfolder x = CHECK.unfolds("a first stretch of 32", stream, due);
        CHECK.counts("a first stretch of 32", x, 1, 56, 6, 0, 1, 1, 1, 1, 4);
        StreamWriter later = twoTypes(14 + 2 + 14 + 2 + 14, 1);
        int[] laterDue = new int[46];
        Arrays.fill(laterDue, 11);
        laterDue[0] = 10;
        later.word("1").number(7, 3).number(31, 5).number(0, 1).word("1").number(7, 3).number(0, 1);
        // 13 and 14 and 5 letters are of the long stretch; the next one has one letter, and one more follows.
        later.word("1").number(7, 3).number(0, 5).number(31, 5);
        laterDue[37] = 10;
        x = CHECK.unfolds("a later stretch of 32", later, laterDue);
        CHECK.counts("a later stretch of 32", x, 1, 42, 4, 0, 3);
    }

    private static void mapNumbersNotBelowTheCodes() {
        for (int types = 1; types <= 3; types++) {
            for (int codes = 2; codes <= 4; codes++) {
                for (int at = 0; at < 4 * types; at++) {
                    StreamWriter stream = new StreamWriter().lastOf(1).number(types - 1, 2);
                    if (types > 1) {
                        stream.simple(types == 2 ? 2 : 3, 1).number(0, 5);
                    }
                    for (int t = 0; t < types; t++) {
                        stream.number(0, 2);
                    }
                    stream.number(codes - 1, 2);
                    for (int k = 0; k < at; k++) {
                        stream.number(codes - 1, 2);
                    }
                    goesOn(codes + " codes, number " + (codes - 1), stream, new StreamWriter().number(codes - 1, 2));
                    for (int number = codes; number < 4; number++) {
                        CHECK.wrongAtOnce("number " + number + " of " + codes + " codes", copy(stream).number(number, 2));
                    }
                }
            }
        }
    }

    private static void placesOfTwoAndThreeCodes() {
        // Mode 0 and the letters 4 .. 7 and 8 .. 11 (and 12 .. 15): each context is met once.
        int[][] told = {{1, 1, 0, 1}, {2, 2, 1, 2}, {0, 0, 1, 1}};
        int[][] meant = {{1, 0, 0, 1}, {2, 1, 2, 0}, {0, 0, 1, 0}};
        int[] codes = {2, 3, 3};
        for (int row = 0; row < 3; row++) {
            StreamWriter stream = new StreamWriter().lastOf(4).number(0, 2).number(0, 2).number(codes[row] - 1, 2);
            for (int number : told[row]) {
                stream.number(number, 2);
            }
            stream.number(1, 1);
            for (int k = 1; k <= codes[row]; k++) {
                stream.simple(5, 4 * k, 4 * k + 1, 4 * k + 2, 4 * k + 3).word("0");
            }
            stream.simple(4, 8).simple(4, 0).number(1, 2).word("01 10 11 00");
            int[] due = new int[4];
            for (int k = 0; k < 4; k++) {
                due[k] = 4 * (meant[row][k] + 1) + (k + 1) % 4;
            }
            CHECK.unfolds("places of " + codes[row] + " codes", stream, due);
        }
    }

    private static void rowOfPlacesBeginsAnew() {
        StreamWriter stream = new StreamWriter();
        for (int block = 0; block < 2; block++) {
            stream.codedOf(1).number(0, 2).number(0, 2).number(1, 2);
            stream.number(1 - block, 2).number(0, 2).number(0, 2).number(0, 2).number(1, 1);
            stream.simple(5, 16).simple(5, 20).simple(4, 4).simple(4, 0).number(0, 1);
        }
        ContextUnfolder x = CHECK.unfolds("a map by places behind another one", stream.lastEmpty(), 20, 16);
        x.unfold();
        CHECK.equal("the row of another unfold()", x.letter(0), 20);
    }

    private static void oneLetterCodeNeedsNoMap() {
        StreamWriter stream = new StreamWriter().codedOf(3).number(0, 2).number(0, 2).number(1, 2);
        stream.number(1, 2).number(1, 2).number(1, 2).number(1, 2).number(0, 1).simple(5, 20).simple(5, 21);
        stream.simple(4, 8).simple(4, 0).number(0, 2);
        stream.lastOf(3).number(2, 2).simple(3, 1).number(0, 5).number(0, 2).number(1, 2).number(2, 2).number(0, 2);
        stream.simple(5, 22).simple(4, 8).simple(4, 0).number(0, 2).number(0, 5).number(0, 5);
        CHECK.unfolds("one letter code behind a map", stream, 21, 21, 21, 22, 22, 22);
    }

    private static void numbersAreReadBeforeTheLetters() {
        StreamWriter right = new StreamWriter().plain(1, 2, 3).lastOf(13).oneType(0).simple(5, 10, 20);
        right.simple(4, 10).simple(4, 4).number(2, 2).number(3, 2).word("1 0 0 1 1").number(1, 1);
        CHECK.unfolds("both numbers stand before the letters", right,
                1, 2, 3, 20, 10, 10, 20, 20, 20, 20, 20, 20, 20, 20, 20, 20);
    }

    private static void insertedBeyondTheBlock() {
        int[] least = {0, 1, 3, 7};
        for (int letters = 2; letters <= 14; letters++) {
            int a = letters < 3 ? 1 : letters < 7 ? 2 : 3;
            for (int c = 0; c < 4; c++) {
                StreamWriter first = new StreamWriter().plain(1, 2, 3, 4).lastOf(letters - 1).oneType(0);
                first.simple(5, 5).simple(4, 4 * a + c).simple(4, 4).number(letters - least[a], a).number(0, c);
                CHECK.wrongAtOnce("one of " + letters + " letters too many", first);
                StreamWriter second = new StreamWriter().plain(1, 2, 3, 4).lastOf(letters + 1).oneType(0);
                second.simple(5, 5).simple(4, 0, 4 * a + c).simple(4, 0);
                second.word("0 1").number(letters - least[a], a).number(0, c);
                CHECK.wrongAtOnce("the same in a second command", second);
            }
        }
    }

    private static void copiedBeyondTheBlock() {
        int[] least = {2, 3, 5, 9};
        for (int c = 0; c < 4; c++) {
            for (int more = 0; more < 1 << c; more++) {
                int length = least[c] + more;
                for (int room = 1; room <= length; room++) {
                    StreamWriter stream = new StreamWriter().plain(1, 2, 3, 4).lastOf(room).oneType(0);
                    stream.simple(5, 5).simple(4, c).simple(4, 5).number(more, c).number(1, 1);
                    if (room < length) {
                        CHECK.wrongAtOnce(length + " letters with room for " + room, stream);
                    } else {
                        CHECK.equal("just as many", stream.unfolder().unfold(), 4 + length);
                    }
                }
            }
        }
    }

    private static void blockIsFullBehindItsLetters() {
        for (int c = 0; c < 4; c++) {
            StreamWriter stream = new StreamWriter().codedOf(3).oneType(0).simple(5, 5, 6).simple(4, 8 + c);
            stream.simple(4, 4, 5).number(0, 2).number((1 << c) - 1, c).word("0 1 0").lastEmpty();
            ContextUnfolder x = CHECK.unfolds("no piece in a full block", stream, 5, 6, 5);
            CHECK.counts("no piece in a full block", x, 2, 3, 0, 0, 0, 4, 11, 15, 16);
        }
    }

    /** Three types, whose letters are 10, 11 and 12, in stretches of one; the last block has 7 letters. */
    private static StreamWriter threeTypes() {
        StreamWriter stream = new StreamWriter().lastOf(7).number(2, 2).lengths(2, 2, 2, 3, 3).number(0, 5);
        stream.number(0, 2).number(0, 2).number(0, 2).number(2, 2);
        for (int k = 0; k < 12; k++) {
            stream.number(k / 4, 2);
        }
        stream.number(0, 1).simple(5, 10).simple(5, 11).simple(5, 12);
        return stream.simple(4, 12).simple(4, 0).number(0, 3);
    }

    private static StreamWriter changes(StreamWriter stream, String... words) {
        for (String word : words) {
            stream.word(word).number(0, 5);
        }
        return stream;
    }

    private static void typesWrapAround() {
        StreamWriter three = changes(threeTypes(), "01", "01", "01", "01", "01", "01");
        CHECK.unfolds("0 behind the last of three types", three, 10, 11, 12, 10, 11, 12, 10);
        StreamWriter two = twoTypes(3, 1).word("0").number(0, 2).number(0, 5).number(0, 5);
        CHECK.unfolds("0 behind the last of two types", two, 10, 11, 10);
        StreamWriter told = changes(threeTypes(), "111", "01", "110", "110", "10", "10");
        CHECK.unfolds("types that are told", told, 10, 12, 10, 11, 11, 10, 10);
    }

    private static void typeBeforeForTheFirstTime() {
        StreamWriter first = changes(threeTypes(), "00", "00", "00", "00", "00", "00");
        CHECK.unfolds("1 for the first time, then the one before", first, 10, 11, 10, 11, 10, 11, 10);
        StreamWriter later = changes(threeTypes(), "111", "00", "00", "110", "00", "00");
        CHECK.unfolds("the one before behind a told type", later, 10, 12, 10, 12, 11, 12, 11);
        StreamWriter same = changes(threeTypes(), "10", "00", "01", "00", "00", "01");
        CHECK.unfolds("the one before can be the same", same, 10, 10, 10, 11, 10, 11, 12);
    }

    private static void contextsWithNoLettersBefore() {
        for (int mode = 0; mode < 4; mode++) {
            for (int letter : new int[] {0, 31}) {
                StreamWriter stream = new StreamWriter().lastOf(2).number(0, 2).number(mode, 2).number(3, 2);
                stream.number(0, 2).number(1, 2).number(2, 2).number(3, 2).number(0, 1);
                stream.simple(5, letter).simple(5, 9).simple(5, 10).simple(5, 11);
                stream.simple(4, 4).simple(4, 0).number(1, 1);
                int second = letter == 0 ? 0 : mode == 3 ? 10 : 11;
                CHECK.unfolds("mode " + mode + " behind nothing and behind " + letter, stream, letter, second);
            }
        }
    }

    private static void distanceOfTheWholeOutput() {
        int[] least = {1, 3, 5, 9, 13, 21, 29, 45, 61};
        for (int k = 0; k < 8; k++) {
            for (int distance = least[k]; distance < least[k + 1]; distance++) {
                for (int size = Math.max(1, distance - 1); size <= distance; size++) {
                    StreamWriter stream = new StreamWriter().plainRun(30, size).lastOf(3).oneType(0).simple(5, 5);
                    stream.simple(4, 1).simple(4, 4 + k).number(0, 1).number(distance - least[k], 1 + k / 2);
                    int[] due = new int[size + 3];
                    Arrays.fill(due, 30);
                    if (size < distance) {
                        due[size] = 15;
                        due[size + 1] = 18;
                        due[size + 2] = 27;
                    }
                    ContextUnfolder x = CHECK.unfolds(distance + " back of " + size, stream, due);
                    if (size < distance) {
                        CHECK.counts("a word is not remembered", x, 2, size, 0, 3, 0, 4, 11, 15, 16);
                    } else {
                        CHECK.counts("a copy is remembered", x, 2, size, 3, 0, 0, distance, 4, 11, 15);
                    }
                }
            }
        }
    }

    private static void oldestDistanceGoes() {
        StreamWriter stream = new StreamWriter().plainRun(1, 20).lastOf(12).oneType(0).simple(5, 0);
        stream.simple(4, 0).simple(4, 3, 0);
        stream.word("1 0 1 1 1 1");
        ContextUnfolder x = stream.unfolder();
        CHECK.equal("the oldest of four, five times", x.unfold(), 32);
        CHECK.counts("16, 15, 11, 4 and 16 again", x, 2, 20, 12, 0, 0, 16, 4, 11, 15);
    }

    private static void wordLengths() {
        for (int length = 2; length <= 16; length++) {
            int c = length < 3 ? 0 : length < 5 ? 1 : length < 9 ? 2 : 3;
            int more = length - new int[] {2, 3, 5, 9}[c];
            for (int change = 0; change < 5; change++) {
                StreamWriter stream = lastUpToCodes(200).simple(5, 0).simple(4, c);
                // Distances 1, 9, 17, 25 and 33 on no output.
                stream.simple(4, new int[] {4, 7, 8, 9, 10}[change]).number(more, c);
                stream.number(new int[] {0, 0, 4, 4, 4}[change], new int[] {1, 2, 3, 3, 4}[change]);
                if (length < 3 || length > 6) {
                    CHECK.wrongAtOnce("a word of " + length, stream);
                } else {
                    goesOn("a word of " + length, stream, new StreamWriter().number(0, c));
                }
            }
        }
    }

    private static void wordAlterations() {
        // Four letters stand before, so that distance d is at d - 5.
        int[][] due = {{23, 31, 13, 1}, {22, 31, 13, 1}, {31, 13, 1}, {23, 31, 13}, {23, 31, 13, 1, 0}};
        for (int change = 0; change < 5; change++) {
            for (int room = 1; room <= 6; room++) {
                int distance = 8 * change + 1 + 4 + 5;
                int k = distance < 13 ? 3 : distance < 21 ? 4 : distance < 29 ? 5 : distance < 45 ? 6 : 7;
                int least = new int[] {1, 3, 5, 9, 13, 21, 29, 45}[k];
                StreamWriter stream = new StreamWriter().plain(1, 2, 3, 4).lastOf(room).oneType(0).simple(5, 0);
                stream.simple(4, 1).simple(4, 4 + k).number(1, 1).number(distance - least, 1 + k / 2);
                if (room < due[change].length) {
                    CHECK.wrongAtOnce("word 5 by " + change + " with room for " + room, stream);
                } else if (room == due[change].length) {
                    int[] all = Arrays.copyOf(new int[] {1, 2, 3, 4}, 4 + room);
                    System.arraycopy(due[change], 0, all, 4, room);
                    ContextUnfolder x = CHECK.unfolds("word 5 by " + change, stream, all);
                    CHECK.counts("word 5 by " + change, x, 2, 4, 0, room, 0, 4, 11, 15, 16);
                }
            }
        }
        for (int distance = 45; distance <= 60; distance++) {
            StreamWriter stream = new StreamWriter().plain(1, 2, 3, 4).lastOf(100).oneType(0).simple(5, 0);
            stream.simple(4, 1).simple(4, 11).number(1, 1).number(distance - 45, 4);
            CHECK.wrongAtOnce("altered by 5 and more: " + distance, stream);
        }
        StreamWriter last = new StreamWriter().plain(1, 2, 3, 4).lastOf(5).oneType(0).simple(5, 0);
        last.simple(4, 1).simple(4, 10).number(1, 1).number(44 - 29, 4);
        CHECK.unfolds("the last word of all", last, 1, 2, 3, 4, 5, 15, 31, 21, 0);
    }
}
