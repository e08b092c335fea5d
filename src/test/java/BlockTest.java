/** Promises 6 to 9: blocks, plain ones and last ones, and what stays when a stream is wrong. */
final class BlockTest {
    private static final Check CHECK = new Check();

    public static void main(String[] args) {
        emptyLast();
        plain();
        behindTheLast();
        tooManyLetters();
        wrongLeavesTheOutput();
        unfoldAnew();
        noSuchCount();
        takenOfEveryBeginning();
        CHECK.end();
    }

    private static void emptyLast() {
        ContextUnfolder x = CHECK.unfolds("an empty last block", new StreamWriter().lastEmpty());
        CHECK.counts("an empty last block", x, 1, 0, 0, 0, 0, 4, 11, 15, 16);
        CHECK.wrong("the second bit is missing", new StreamWriter().word("1"), 1);
    }

    private static void plain() {
        StreamWriter stream = new StreamWriter().plain(31, 0, 16, 1).plain(9).lastEmpty();
        ContextUnfolder x = CHECK.unfolds("plain blocks", stream, 31, 0, 16, 1, 9);
        CHECK.counts("plain blocks", x, 3, 5, 0, 0, 0, 4, 11, 15, 16);
        CHECK.refused("letter(5)", IndexOutOfBoundsException.class, () -> x.letter(5));
        CHECK.refused("letter(-1)", IndexOutOfBoundsException.class, () -> x.letter(-1));
        CHECK.refused("letter(max)", IndexOutOfBoundsException.class, () -> x.letter(Integer.MAX_VALUE));
        CHECK.wrong("no last block", new StreamWriter().plain(3, 4), 20);
        CHECK.wrong("a letter lacks a bit", new StreamWriter().plain(3, 4).first(19), 15);
    }

    private static void behindTheLast() {
        StreamWriter stream = new StreamWriter().plain(5).lastEmpty();
        int taken = stream.size();
        ContextUnfolder x = stream.number(12345, 20).unfolder();
        CHECK.equal("bits behind the last block", x.unfold(), 1);
        CHECK.equal("are not taken", x.taken(), taken);
        CHECK.equal("and the stream stays", x.put(0, 0), stream.size());
    }

    private static void tooManyLetters() {
        StreamWriter run = new StreamWriter().plainRun(1, 144).append(coded256());
        StreamWriter more = new StreamWriter().append(run);
        int before = more.size();
        more.word("0").number(0, 8).word("1").number(3, 5).lastEmpty();
        CHECK.wrong("letter 401", more, before + 9);
        StreamWriter last = new StreamWriter().append(run).lastOf(1);
        CHECK.wrong("letter 401 in a last block", last, last.size());
        ContextUnfolder x = run.lastEmpty().unfolder();
        CHECK.equal("400 letters", x.unfold(), 400);
        CHECK.equal("the last of 400", x.letter(399), 2);
        CHECK.refused("letter(400)", IndexOutOfBoundsException.class, () -> x.letter(400));
        CHECK.counts("400 letters", x, 3, 144 + 224, 32, 0, 0, 4, 11, 15, 16);
    }

    /** A block of 256 letters 2: sixteen commands, each of which inserts 14 and copies 2 from 4 back. */
    private static StreamWriter coded256() {
        StreamWriter s = new StreamWriter().codedOf(256).oneType(0);
        s.simple(5, 2).simple(4, 12).simple(4, 0);
        for (int k = 0; k < 16; k++) {
            s.number(7, 3);
        }
        return s;
    }

    private static void wrongLeavesTheOutput() {
        StreamWriter right = new StreamWriter().plain(4, 5, 6).lastEmpty();
        ContextUnfolder x = right.unfolder();
        x.unfold();
        x.cut(0);
        new StreamWriter().plain(1).plain(2).plain(3).plain(9).putInto(x);
        CHECK.refused("a wrong stream", IllegalArgumentException.class, x::unfold);
        CHECK.equal("taken() of the wrong stream", x.taken(), 60);
        CHECK.counts("a wrong stream leaves", x, 2, 3, 0, 0, 0, 4, 11, 15, 16);
        CHECK.equal("letter(0) stays", x.letter(0), 4);
        CHECK.refused("letter(3) stays away", IndexOutOfBoundsException.class, () -> x.letter(3));
    }

    private static void unfoldAnew() {
        ContextUnfolder x = new StreamWriter().plain(4, 5, 6).lastEmpty().unfolder();
        CHECK.equal("unfold()", x.unfold(), 3);
        CHECK.equal("unfold() again", x.unfold(), 3);
        CHECK.counts("unfold() again", x, 2, 3, 0, 0, 0, 4, 11, 15, 16);
        x.flip(0);
        x.flip(1);
        CHECK.equal("a shorter one", x.cut(2), 25);
        CHECK.equal("unfold() of nothing", x.unfold(), 0);
        CHECK.refused("no letter stays", IndexOutOfBoundsException.class, () -> x.letter(0));
        CHECK.counts("unfold() of nothing", x, 1, 0, 0, 0, 0, 4, 11, 15, 16);
    }

    private static void noSuchCount() {
        ContextUnfolder x = new ContextUnfolder();
        for (int which : new int[] {-1, 9, 10, Integer.MIN_VALUE, Integer.MAX_VALUE}) {
            CHECK.refused("count(" + which + ")", IllegalArgumentException.class, () -> x.count(which));
        }
    }

    private static void takenOfEveryBeginning() {
        StreamWriter stream = new StreamWriter().plain(1, 2).lastEmpty();
        for (int n = 0; n < stream.size(); n++) {
            CHECK.wrong("the first " + n + " bits", stream.first(n), stream.startOf(n));
        }
    }
}
