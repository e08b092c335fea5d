/** Promises 6 and 7: how codes are told and read, seen through letters that are inserted. */
final class CodeTest {
    private static final Check CHECK = new Check();

    public static void main(String[] args) {
        simpleCodes();
        simpleWrong();
        lengthCodes();
        lengthsWrong();
        symbolsBitByBit();
        narrowAlphabets();
        CHECK.end();
    }

    private static StreamWriter upToLetterCode(int letters) {
        return new StreamWriter().lastOf(letters).oneType(0);
    }

    /** Behind the letter code: one command that inserts 3 + number letters, 3 .. 6. */
    private static StreamWriter insert(StreamWriter stream, int letters) {
        return stream.simple(4, 8).simple(4, 0).number(letters - 3, 2);
    }

    private static void simpleCodes() {
        CHECK.unfolds("one symbol", insert(upToLetterCode(3).simple(5, 19), 3), 19, 19, 19);
        CHECK.unfolds("two symbols, the lesser first",
                insert(upToLetterCode(4).simple(5, 30, 2), 4).word("0 1 1 0"), 2, 30, 30, 2);
        CHECK.unfolds("three symbols, the first one short",
                insert(upToLetterCode(4).simple(5, 20, 9, 3), 4).word("0 10 11 0"), 20, 3, 9, 20);
        CHECK.unfolds("four symbols of the same length",
                insert(upToLetterCode(4).simple(5, 20, 9, 3, 31).word("0"), 4).word("00 01 10 11"), 3, 9, 20, 31);
        CHECK.unfolds("four symbols, 1 2 3 3",
                insert(upToLetterCode(4).simple(5, 20, 9, 31, 3).word("1"), 4).word("0 10 110 111"), 20, 9, 3, 31);
    }

    private static void simpleWrong() {
        StreamWriter twice = upToLetterCode(3).simple(5, 7, 8, 7);
        CHECK.wrong("a symbol twice", new StreamWriter().append(twice).number(0, 24), twice.size());
        StreamWriter early = upToLetterCode(3).word("1").number(3, 2).number(7, 5).number(7, 5);
        CHECK.wrong("a symbol twice, more to come", new StreamWriter().append(early).number(0, 24), early.size());
        StreamWriter four = upToLetterCode(3).simple(5, 0, 1, 2, 3);
        CHECK.wrong("the further bit is missing", four, four.size());
        StreamWriter half = upToLetterCode(3).word("1").number(1, 2).number(9, 5);
        CHECK.wrong("a symbol lacks a bit", new StreamWriter().append(half).number(0, 4), half.size());
        StreamWriter many = upToLetterCode(3).word("1");
        CHECK.wrong("how many symbols lacks a bit", new StreamWriter().append(many).word("1"), many.size());
    }

    private static void lengthCodes() {
        CHECK.unfolds("by lengths: 0 has 2, 2 has 1, 3 has 2",
                insert(upToLetterCode(5).lengths(2, 0, 1, 2), 5).word("0 10 11 0 10"), 2, 0, 3, 2, 0);
        CHECK.unfolds("all of the lengths",
                insert(upToLetterCode(6).lengths(7, 7, 6, 5, 4, 3, 2, 1), 6)
                        .word("0 10 110 1110 1111110 1111111"), 7, 6, 5, 4, 0, 1);
        int[] five = new int[32];
        java.util.Arrays.fill(five, 5);
        CHECK.unfolds("all symbols of five bits",
                insert(upToLetterCode(3).lengths(five), 3).word("00000 11111 10010"), 0, 31, 18);
        int[] late = new int[32];
        late[30] = 1;
        late[31] = 1;
        CHECK.unfolds("the last symbols alone", insert(upToLetterCode(3).lengths(late), 3).word("0 1 0"), 30, 31, 30);
    }

    private static void lengthsWrong() {
        StreamWriter over = upToLetterCode(3).lengths(1, 2, 1);
        CHECK.wrong("too little room", new StreamWriter().append(over).number(0, 24), over.size());
        StreamWriter barely = upToLetterCode(3).lengths(1, 2, 3, 4, 5, 6, 7, 6);
        CHECK.wrong("too little room by one", new StreamWriter().append(barely).number(0, 24), barely.size());
        int[] left = new int[32];
        left[4] = 1;
        left[31] = 2;
        StreamWriter room = upToLetterCode(3).lengths(left);
        CHECK.wrong("room left", new StreamWriter().append(room).number(0, 24), room.size());
        int[] word = java.util.Arrays.copyOf(new int[] {1, 2, 3, 4, 5, 6, 7}, 32);
        StreamWriter little = upToLetterCode(3).lengths(word);
        CHECK.wrong("room left for one word", new StreamWriter().append(little).number(0, 24), little.size());
        StreamWriter none = upToLetterCode(3).lengths(new int[32]);
        CHECK.wrong("no symbol at all", new StreamWriter().append(none).number(0, 24), none.size());
        int[] sevens = new int[32];
        java.util.Arrays.fill(sevens, 7);
        StreamWriter much = upToLetterCode(3).lengths(sevens);
        CHECK.wrong("much room left", new StreamWriter().append(much).number(0, 24), much.size());
        StreamWriter cut = upToLetterCode(3).lengths(1, 2);
        CHECK.wrong("a length lacks a bit", new StreamWriter().append(cut).word("11"), cut.size());
    }

    private static void symbolsBitByBit() {
        StreamWriter stream = insert(upToLetterCode(3).lengths(7, 7, 6, 5, 4, 3, 2, 1), 3).word("0 11111");
        CHECK.wrong("the bits of a symbol are taken one by one", stream, stream.size());
        StreamWriter number = upToLetterCode(3).simple(5, 1).simple(4, 8).simple(4, 0);
        CHECK.wrong("those of a number are not", new StreamWriter().append(number).word("1"), number.size());
    }

    /** The command code has symbols of four bits, all of which are there; the distance code has 12. */
    private static void narrowAlphabets() {
        StreamWriter start = upToLetterCode(3).simple(5, 1).simple(4, 8);
        for (int symbol = 12; symbol < 16; symbol++) {
            StreamWriter stream = new StreamWriter().append(start).simple(4, symbol);
            int size = stream.size();
            CHECK.wrong("distance symbol " + symbol, stream.number(0, 24), size);
        }
        CHECK.unfolds("distance symbol 11", new StreamWriter().append(start).simple(4, 11).number(0, 2), 1, 1, 1);
        int[] twelve = {0, 0, 0, 0, 0, 0, 0, 0, 0, 0, 1, 2};
        StreamWriter open = new StreamWriter().append(start).lengths(twelve);
        CHECK.wrong("room left behind twelve", new StreamWriter().append(open).number(0, 24), open.size());
        int[] sixteen = {0, 0, 0, 0, 0, 0, 0, 0, 0, 0, 0, 0, 0, 0, 1, 2};
        StreamWriter wide = upToLetterCode(3).simple(5, 1).lengths(sixteen);
        CHECK.wrong("room left behind sixteen", new StreamWriter().append(wide).number(0, 24), wide.size());
        StreamWriter types = new StreamWriter().lastOf(3).number(2, 2);
        StreamWriter five = new StreamWriter().append(types).simple(3, 4, 5);
        CHECK.wrong("type symbol 5 of three types", new StreamWriter().append(five).number(0, 24), five.size());
        StreamWriter pair = new StreamWriter().lastOf(3).number(1, 2).simple(2, 3, 3);
        CHECK.wrong("type symbols of two types have two bits", new StreamWriter().append(pair).number(0, 24), pair.size());
        StreamWriter open5 = new StreamWriter().append(types).lengths(0, 0, 0, 1, 2);
        CHECK.wrong("room left behind five", new StreamWriter().append(open5).number(0, 24), open5.size());
    }
}
