/** Promises 6, 7 and 9: types, stretches, modes, the map and contexts. */
final class LetterTest {
    private static final Check CHECK = new Check();

    public static void main(String[] args) {
        fourTypes();
        contexts();
        mapIsWrong();
        mapByPlaces();
        stretches();
        stretchesBeginAnewInBlocks();
        copiedLettersAreNotOfStretches();
        noStretchBehindTheLastLetter();
        contextsBehindPieces();
        CHECK.end();
    }

    private static StreamWriter copy(StreamWriter stream) {
        return new StreamWriter().append(stream);
    }

    private static void fourTypes() {
        StreamWriter stream = new StreamWriter().lastOf(3).number(3, 2);
        CHECK.wrong("four types", copy(stream).number(0, 24), stream.size());
    }

    /** Code k has the letter 8 + k alone: the letter tells the context. */
    private static StreamWriter codesByContext(StreamWriter stream) {
        stream.number(3, 2);
        for (int context = 0; context < 4; context++) {
            stream.number(context, 2);
        }
        stream.word("0");
        for (int k = 0; k < 4; k++) {
            stream.simple(5, 8 + k);
        }
        return stream;
    }

    private static void contexts() {
        for (int p = 0; p < 32; p++) {
            for (int q = 0; q < 32; q++) {
                int[] due = {p % 4, p / 8, p == 0 ? 0 : p <= 7 ? 1 : p <= 19 ? 2 : 3,
                    (p >= 16 ? 2 : 0) + (q >= 16 ? 1 : 0)};
                for (int mode = 0; mode < 4; mode++) {
                    StreamWriter stream = new StreamWriter().plain(q, p).lastOf(1).number(0, 2).number(mode, 2);
                    codesByContext(stream).simple(4, 4).simple(4, 0).number(0, 1);
                    CHECK.unfolds("mode " + mode + " behind " + q + " " + p, stream, q, p, 8 + due[mode]);
                }
            }
        }
        for (int mode = 0; mode < 4; mode++) {
            StreamWriter stream = new StreamWriter().lastOf(1).number(0, 2).number(mode, 2);
            codesByContext(stream).simple(4, 4).simple(4, 0).number(0, 1);
            CHECK.unfolds("mode " + mode + " behind nothing", stream, 8);
        }
        StreamWriter one = new StreamWriter().plain(31).lastOf(1).number(0, 2).number(3, 2);
        codesByContext(one).simple(4, 4).simple(4, 0).number(0, 1);
        CHECK.unfolds("mode 3 behind one letter", one, 31, 10);
    }

    private static void mapIsWrong() {
        for (int codes = 2; codes <= 3; codes++) {
            for (int at = 0; at < 4; at++) {
                StreamWriter stream = new StreamWriter().lastOf(1).number(0, 2).number(0, 2).number(codes - 1, 2);
                for (int k = 0; k < at; k++) {
                    stream.number(codes - 1, 2);
                }
                stream.number(codes, 2);
                CHECK.wrong("number " + codes + " of " + codes + " codes", copy(stream).number(0, 24), stream.size());
            }
        }
        StreamWriter end = new StreamWriter().lastOf(1).number(0, 2).number(0, 2).number(1, 2).number(0, 8);
        CHECK.wrong("the bit behind the map is missing", end, end.size());
    }

    /** Types 0, 1 and 2 in mode 0, each with stretches of four letters, one for each context. */
    private static StreamWriter threeTypes(int[] map, int places) {
        StreamWriter stream = new StreamWriter().lastOf(12).number(2, 2);
        stream.simple(3, 1).number(3, 5).number(0, 2).number(0, 2).number(0, 2).number(3, 2);
        for (int number : map) {
            stream.number(number, 2);
        }
        stream.number(places, 1);
        return stream;
    }

    /** The codes have 0 .. 3, and 4 more, 8 more, 12 more of these, each letter by two bits. */
    private static StreamWriter fourCodes(StreamWriter stream) {
        for (int k = 0; k < 4; k++) {
            stream.simple(5, 4 * k, 4 * k + 1, 4 * k + 2, 4 * k + 3).word("0");
        }
        return stream;
    }

    private static void mapByPlaces() {
        int[] told = {3, 3, 1, 0, 2, 2, 2, 3, 0, 1, 3, 3};
        // The row is 0123, 3012, 2301, 3201, 3201, 0321, 2031, 3201, 1320, 1320, 3120, 0312, 2031.
        int[] byPlaces = {3, 2, 3, 3, 0, 2, 3, 1, 1, 3, 0, 2};
        for (int places = 0; places < 2; places++) {
            StreamWriter stream = fourCodes(threeTypes(told, places)).simple(4, 12).simple(4, 0);
            int[] due = new int[12];
            stream.number(5, 3);
            for (int k = 0; k < 12; k++) {
                if (k == 4 || k == 8) {
                    stream.number(3, 5);
                }
                // In context k % 4 the next letter has the next context, the first of all 0.
                int next = (k + 1) % 4;
                stream.number(next >> 1, 1).number(next & 1, 1);
                due[k] = 4 * (places == 1 ? byPlaces[k] : told[k]) + next;
            }
            ContextUnfolder x = CHECK.unfolds("the map, places " + places, stream, due);
            CHECK.counts("the map, places " + places, x, 1, 12, 0, 0, 2);
        }
    }

    /** Two or three types, whose letters are 10, 11 and 12, and a type code of symbols of the same length. */
    private static StreamWriter typed(StreamWriter stream, int types, int firstStretch) {
        stream.number(types - 1, 2);
        if (types == 2) {
            stream.lengths(2, 2, 2, 2);
        } else {
            stream.lengths(2, 2, 2, 3, 3);
        }
        stream.number(firstStretch - 1, 5);
        for (int t = 0; t < types; t++) {
            stream.number(0, 2);
        }
        stream.number(types - 1, 2);
        for (int t = 0; t < types; t++) {
            stream.number(t, 2).number(t, 2).number(t, 2).number(t, 2);
        }
        stream.word("0");
        for (int t = 0; t < types; t++) {
            stream.simple(5, 10 + t);
        }
        return stream.simple(4, 12).simple(4, 0);
    }

    private static void stretches() {
        StreamWriter two = typed(new StreamWriter().lastOf(9), 2, 1).number(2, 3);
        two.word("00").number(0, 5);
        two.word("00").number(0, 5);
        two.word("01").number(0, 5);
        two.word("01").number(0, 5);
        two.word("11").number(0, 5);
        two.word("11").number(0, 5);
        two.word("00").number(0, 5);
        two.word("10").number(31, 5);
        ContextUnfolder x = CHECK.unfolds("two types", two, 10, 11, 10, 11, 10, 11, 11, 11, 10);
        CHECK.counts("two types", x, 1, 9, 0, 0, 8);
        StreamWriter three = typed(new StreamWriter().lastOf(14), 3, 2).number(7, 3);
        three.word("01").number(0, 5);
        three.word("01").number(1, 5);
        three.word("00").number(0, 5);
        three.word("00").number(0, 5);
        three.word("01").number(0, 5);
        three.word("00").number(0, 5);
        three.word("110").number(0, 5);
        three.word("111").number(0, 5);
        three.word("10").number(0, 5);
        three.word("00").number(1, 5);
        x = CHECK.unfolds("three types", three, 10, 10, 11, 12, 12, 11, 12, 10, 12, 11, 12, 10, 12, 12);
        CHECK.counts("three types", x, 1, 14, 0, 0, 10);
        StreamWriter first = typed(new StreamWriter().lastOf(7), 3, 1).number(0, 3);
        first.word("00").number(2, 5);
        first.word("00").number(2, 5);
        CHECK.unfolds("symbol 0 for the first time is type 1", first, 10, 11, 11, 11, 10, 10, 10);
        StreamWriter later = typed(new StreamWriter().lastOf(7), 3, 1).number(0, 3);
        later.word("10").number(2, 5);
        later.word("00").number(2, 5);
        CHECK.unfolds("symbol 0 behind another symbol", later, 10, 10, 10, 10, 10, 10, 10);
        StreamWriter missing = typed(new StreamWriter().lastOf(7), 3, 1).number(0, 3).word("00");
        CHECK.wrong("how long a stretch is lacks a bit", copy(missing).number(0, 4), missing.size());
        StreamWriter half = typed(new StreamWriter().lastOf(7), 3, 1).number(0, 3).word("1");
        CHECK.wrong("its type lacks a bit", half, half.size());
    }

    private static void stretchesBeginAnewInBlocks() {
        StreamWriter stream = typed(new StreamWriter().codedOf(8), 3, 1).number(1, 3);
        stream.word("111").number(31, 5);
        typed(stream.lastOf(7), 3, 1).number(0, 3);
        stream.word("00").number(31, 5);
        ContextUnfolder x = CHECK.unfolds("stretches begin anew", stream,
                10, 12, 12, 12, 12, 12, 12, 12, 10, 11, 11, 11, 11, 11, 11);
        CHECK.counts("stretches begin anew", x, 2, 15, 0, 0, 2);
        StreamWriter oneType = typed(new StreamWriter().codedOf(8), 3, 1).number(1, 3);
        oneType.word("111").number(31, 5);
        oneType.lastOf(40).oneType(0).simple(5, 1).simple(4, 12).simple(4, 4);
        int[] due = new int[48];
        java.util.Arrays.fill(due, 12);
        due[0] = 10;
        for (int k = 8; k < 48; k++) {
            due[k] = 1;
        }
        oneType.number(7, 3).number(0, 1).number(7, 3).number(0, 1).number(1, 3);
        x = CHECK.unfolds("one type has no stretches", oneType, due);
        CHECK.counts("one type has no stretches", x, 2, 8 + 14 + 14 + 8, 4, 0, 1);
    }

    private static void copiedLettersAreNotOfStretches() {
        StreamWriter stream = new StreamWriter().plain(1, 2, 3, 4);
        stream.lastOf(14).number(1, 2).simple(2, 1).number(7, 5).number(0, 4).number(1, 2);
        stream.number(0, 8).number(85, 8).word("0").simple(5, 10).simple(5, 11);
        stream.simple(4, 12, 8).simple(4, 0);
        // Seven letters, two copies, three letters, two copies: type 1 begins with the ninth that is inserted.
        stream.word("1").number(0, 3);
        stream.word("0").number(0, 2).number(1, 5);
        ContextUnfolder x = CHECK.unfolds("letters that are copied are not of stretches", stream,
                1, 2, 3, 4, 10, 10, 10, 10, 10, 10, 10, 10, 10, 10, 11, 11, 10, 10);
        CHECK.counts("letters that are copied are not of stretches", x, 2, 14, 4, 0, 1, 4);
    }

    private static void noStretchBehindTheLastLetter() {
        StreamWriter stream = typed(new StreamWriter().lastOf(9), 2, 7);
        stream.number(0, 3);
        ContextUnfolder x = CHECK.unfolds("a stretch ends with the inserted letters", stream,
                10, 10, 10, 10, 10, 10, 10, 10, 10);
        CHECK.counts("a stretch ends with the inserted letters", x, 1, 7, 2, 0, 0, 4);
    }

    private static void contextsBehindPieces() {
        StreamWriter stream = new StreamWriter().plain(3, 20, 1, 1).lastOf(3).number(0, 2).number(1, 2);
        codesByContext(stream).simple(4, 0, 4).simple(4, 0);
        // Copies 3 and 20, then inserts one letter in the context of 20.
        stream.word("0").word("1").number(0, 1);
        CHECK.unfolds("the context of a copied letter", stream, 3, 20, 1, 1, 3, 20, 10);
    }
}
