import java.util.Random;

/** Promises 6 to 9 on streams that are mostly wrong, against a slow reading of the document. */
final class WrongStreamsTest {
    private static final Check CHECK = new Check();
    private static final int STREAMS = 6000;
    private static int right;
    private static int wrong;

    public static void main(String[] args) {
        for (int seed = 0; seed < STREAMS; seed++) {
            RandomFolder folder = new RandomFolder(seed);
            if (folder.fits()) {
                Random random = new Random(~seed);
                ContextUnfolder x = folder.stream.unfolder();
                for (int k = 0; k < 12; k++) {
                    spoil(x, random);
                    compare("seed " + seed + ", change " + k, x);
                }
            }
        }
        for (int seed = 0; seed < STREAMS; seed++) {
            compare("noise " + seed, noise(new Random(seed)));
        }
        // Else there would be little to compare.
        CHECK.isTrue("streams are often right: " + right, right > 3000);
        CHECK.isTrue("streams are often wrong: " + wrong, wrong > 3000);
        CHECK.end();
    }

    /** Flips a bit or two, or cuts the stream and puts other bits behind. */
    private static void spoil(ContextUnfolder x, Random random) {
        int size = x.put(0, 0);
        if (random.nextInt(4) > 0) {
            x.flip(random.nextInt(size));
            return;
        }
        x.cut(1 + random.nextInt(size));
        int n = random.nextInt(25);
        x.put(random.nextInt(1 << n), n);
    }

    /** A coded block with bits by chance behind its head. */
    private static ContextUnfolder noise(Random random) {
        ContextUnfolder x = new ContextUnfolder();
        if (random.nextBoolean()) {
            new StreamWriter().plainRun(random.nextInt(32), 1 + random.nextInt(50)).putInto(x);
        }
        x.put(1, 2);
        x.put(random.nextInt(256), 8);
        x.put(random.nextInt(3), 2);
        // Few ones make simple codes rare, many ones make them frequent.
        int ones = 1 + random.nextInt(3);
        for (int k = 0; k < 1000; k++) {
            x.put(random.nextInt(4) < ones ? 1 : 0, 1);
        }
        return x;
    }

    private static void compare(String what, ContextUnfolder x) {
        int size = x.put(0, 0);
        StringBuilder bits = new StringBuilder();
        for (int i = 0; i < size; i++) {
            bits.append(x.bit(i) ? '1' : '0');
        }
        int[] counts = new int[9];
        for (int which = 0; which < 9; which++) {
            counts[which] = x.count(which);
        }
        SlowUnfolder due = new SlowUnfolder(bits.toString());
        try {
            CHECK.equal(what + ": unfold()", x.unfold(), due.right ? due.letters.size() : -1);
            for (int i = 0; i < due.letters.size(); i++) {
                CHECK.equal(what + ": letter(" + i + ")", x.letter(i), due.letters.get(i));
            }
            counts = due.counts;
            right++;
        } catch (IllegalArgumentException e) {
            CHECK.isTrue(what + ": the stream is right, but unfold() throws", !due.right);
            wrong++;
        }
        CHECK.equal(what + ": taken()", x.taken(), due.taken);
        CHECK.counts(what, x, counts);
    }
}
