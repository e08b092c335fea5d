/** Promises 1 to 5: a new object, put, bit, flip and cut. */
final class StreamTest {
    private static final Check CHECK = new Check();

    public static void main(String[] args) {
        newObject();
        put();
        putWrong();
        putFull();
        flip();
        cut();
        outputStays();
        CHECK.end();
    }

    private static void newObject() {
        ContextUnfolder x = new ContextUnfolder();
        CHECK.equal("new: put(0, 0)", x.put(0, 0), 0);
        CHECK.equal("new: taken()", x.taken(), 0);
        CHECK.equal("new: cut(0)", x.cut(0), 0);
        CHECK.counts("new", x, 0, 0, 0, 0, 0, 4, 11, 15, 16);
        CHECK.refused("new: bit(0)", IndexOutOfBoundsException.class, () -> x.bit(0));
        CHECK.refused("new: flip(0)", IndexOutOfBoundsException.class, () -> x.flip(0));
        CHECK.refused("new: letter(0)", IndexOutOfBoundsException.class, () -> x.letter(0));
        CHECK.refused("new: unfold()", IllegalArgumentException.class, x::unfold);
        CHECK.equal("new: taken() behind unfold()", x.taken(), 0);
        ContextUnfolder y = new ContextUnfolder();
        x.put(1, 1);
        CHECK.equal("objects do not share a stream", y.put(0, 1), 1);
    }

    private static void put() {
        ContextUnfolder x = new ContextUnfolder();
        CHECK.equal("put(6, 4)", x.put(6, 4), 4);
        CHECK.equal("put(1, 1)", x.put(1, 1), 5);
        CHECK.equal("put(16777215, 24)", x.put(16777215, 24), 29);
        CHECK.equal("put(8388608, 24)", x.put(8388608, 24), 53);
        int[] due = {0, 1, 1, 0, 1};
        for (int i = 0; i < 53; i++) {
            int bit = i < 5 ? due[i] : i < 29 || i == 52 ? 1 : 0;
            CHECK.equal("bit(" + i + ")", x.bit(i) ? 1 : 0, bit);
        }
        CHECK.refused("bit(53)", IndexOutOfBoundsException.class, () -> x.bit(53));
        CHECK.refused("bit(-1)", IndexOutOfBoundsException.class, () -> x.bit(-1));
        CHECK.refused("bit(max)", IndexOutOfBoundsException.class, () -> x.bit(Integer.MAX_VALUE));
    }

    private static void putWrong() {
        ContextUnfolder x = new ContextUnfolder();
        int[][] wrong = {{0, -1}, {0, 25}, {1, 0}, {-1, 0}, {2, 1}, {-1, 1}, {-1, 24}, {16777216, 24}, {8, 3},
            {0, 32}, {1, 33}, {0, Integer.MIN_VALUE}, {0, Integer.MAX_VALUE},
            {Integer.MAX_VALUE, 24}, {Integer.MIN_VALUE, 24}, {Integer.MIN_VALUE, 0}};
        for (int[] w : wrong) {
            CHECK.refused("put(" + w[0] + ", " + w[1] + ")", IllegalArgumentException.class,
                    () -> x.put(w[0], w[1]));
        }
        CHECK.equal("nothing was put", x.put(0, 0), 0);
    }

    private static void putFull() {
        ContextUnfolder x = new ContextUnfolder();
        for (int k = 1; k <= 83; k++) {
            CHECK.equal("put " + k, x.put(0, 24), 24 * k);
        }
        CHECK.refused("9 bits too many", IllegalStateException.class, () -> x.put(0, 9));
        CHECK.refused("24 bits too many", IllegalStateException.class, () -> x.put(0, 24));
        CHECK.refused("the number is looked at first", IllegalArgumentException.class, () -> x.put(512, 9));
        CHECK.equal("bit 2000", x.put(255, 8), 2000);
        CHECK.isTrue("bit(1999)", x.bit(1999));
        CHECK.refused("bit(2000)", IndexOutOfBoundsException.class, () -> x.bit(2000));
        CHECK.refused("one bit too many", IllegalStateException.class, () -> x.put(0, 1));
        CHECK.refused("n is looked at first", IllegalArgumentException.class, () -> x.put(0, 25));
        CHECK.equal("no bit more", x.put(0, 0), 2000);
        CHECK.equal("cut(1999)", x.cut(1999), 1);
        CHECK.equal("room for one", x.put(0, 1), 2000);
    }

    private static void flip() {
        ContextUnfolder x = new ContextUnfolder();
        x.put(5, 3);
        x.flip(0);
        x.flip(1);
        CHECK.equal("bit(0)", x.bit(0) ? 1 : 0, 0);
        CHECK.equal("bit(1)", x.bit(1) ? 1 : 0, 1);
        CHECK.equal("bit(2)", x.bit(2) ? 1 : 0, 1);
        x.flip(1);
        CHECK.equal("bit(1) again", x.bit(1) ? 1 : 0, 0);
        CHECK.refused("flip(3)", IndexOutOfBoundsException.class, () -> x.flip(3));
        CHECK.refused("flip(-1)", IndexOutOfBoundsException.class, () -> x.flip(-1));
        CHECK.equal("flips leave the size", x.put(0, 0), 3);
    }

    private static void cut() {
        ContextUnfolder x = new ContextUnfolder();
        x.put(1023, 10);
        CHECK.refused("cut(11)", IllegalArgumentException.class, () -> x.cut(11));
        CHECK.refused("cut(-1)", IllegalArgumentException.class, () -> x.cut(-1));
        CHECK.equal("cut(10)", x.cut(10), 0);
        CHECK.equal("cut(4)", x.cut(4), 6);
        CHECK.isTrue("bit(3)", x.bit(3));
        CHECK.refused("bit(4)", IndexOutOfBoundsException.class, () -> x.bit(4));
        CHECK.refused("flip(4)", IndexOutOfBoundsException.class, () -> x.flip(4));
        CHECK.refused("cut(5)", IllegalArgumentException.class, () -> x.cut(5));
        CHECK.equal("put behind a cut", x.put(0, 3), 7);
        CHECK.equal("bit(4) is the new one", x.bit(4) ? 1 : 0, 0);
        CHECK.equal("cut(0)", x.cut(0), 7);
    }

    private static void outputStays() {
        StreamWriter stream = new StreamWriter().plain(7, 8).lastEmpty();
        ContextUnfolder x = stream.unfolder();
        x.unfold();
        x.put(3, 2);
        x.flip(0);
        x.cut(1);
        CHECK.equal("letter(1) stays", x.letter(1), 8);
        CHECK.equal("taken() stays", x.taken(), stream.size());
        CHECK.equal("count(1) stays", x.count(1), 2);
    }
}
