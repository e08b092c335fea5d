/** Promises 6 to 9 on streams made by chance, on their beginnings, and with single bits changed. */
final class RandomStreamsTest {
    private static final Check CHECK = new Check();
    private static final int STREAMS = 3000;
    private static final int[] MET = new int[5];

    public static void main(String[] args) {
        int fitting = 0;
        for (int seed = 0; seed < STREAMS; seed++) {
            RandomFolder folder = new RandomFolder(seed);
            if (folder.fits()) {
                fitting++;
                right(seed, folder);
                if (seed % 20 == 0) {
                    beginnings(seed, folder);
                }
                if (seed % 50 == 0) {
                    changed(seed, folder);
                }
            }
        }
        // Else the streams would test little.
        CHECK.isTrue("most streams fit", fitting > STREAMS / 2);
        for (int which = 0; which < 5; which++) {
            CHECK.isTrue("count " + which + " is met often", MET[which] > 1000);
        }
        CHECK.end();
    }

    private static void right(int seed, RandomFolder folder) {
        int taken = folder.stream.size();
        StreamWriter longer = new StreamWriter().append(folder.stream).number(seed & 1023, 10);
        ContextUnfolder x = longer.unfolder();
        String what = "seed " + seed;
        try {
            CHECK.equal(what + ": unfold()", x.unfold(), folder.letters.size());
            for (int i = 0; i < folder.letters.size(); i++) {
                CHECK.equal(what + ": letter(" + i + ")", x.letter(i), folder.letters.get(i));
            }
        } catch (RuntimeException e) {
            CHECK.isTrue(what + " unfolds, but " + e, false);
        }
        CHECK.equal(what + ": taken()", x.taken(), taken);
        CHECK.counts(what, x, folder.counts);
        for (int which = 0; which < 5; which++) {
            MET[which] += folder.counts[which];
        }
    }

    private static void beginnings(int seed, RandomFolder folder) {
        for (int n = 0; n < folder.stream.size(); n++) {
            CHECK.wrong("seed " + seed + ", " + n + " bits", folder.stream.first(n), folder.stream.startOf(n));
        }
    }

    /** Whatever a changed bit makes of the stream, the answers fit together. */
    private static void changed(int seed, RandomFolder folder) {
        int size = folder.stream.size();
        for (int i = 0; i < size; i++) {
            ContextUnfolder x = folder.stream.unfolder();
            x.unfold();
            x.flip(i);
            String what = "seed " + seed + ", bit " + i + " changed";
            try {
                int letters = x.unfold();
                CHECK.equal(what, x.count(1) + x.count(2) + x.count(3), letters);
                CHECK.isTrue(what, letters >= x.count(0) - 1 && letters <= 400);
            } catch (IllegalArgumentException e) {
                CHECK.counts(what, x, folder.counts);
            } catch (RuntimeException e) {
                CHECK.isTrue(what + ": " + e, false);
            }
            CHECK.isTrue(what + ": taken()", x.taken() > 0 && x.taken() <= size);
            x.flip(i);
            CHECK.equal(what + " back", x.unfold(), folder.letters.size());
            CHECK.counts(what + " back", x, folder.counts);
        }
    }
}
