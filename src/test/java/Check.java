/** Counts the answers that are not due and prints each of them. */
final class Check {
    interface Call {
        void run();
    }

    private int wrong = 0;

    void equal(String what, long got, long due) {
        if (got != due) {
            wrong++;
            System.out.println(what + " answered " + got + ", due is " + due);
        }
    }

    void isTrue(String what, boolean got) {
        equal(what, got ? 1 : 0, 1);
    }

    void refused(String what, Class<? extends RuntimeException> due, Call call) {
        Class<?> got = null;
        try {
            call.run();
        } catch (RuntimeException e) {
            got = e.getClass();
        }
        if (got != due) {
            wrong++;
            System.out.println(what + " threw " + (got == null ? "nothing" : got.getName())
                    + ", due is " + due.getName());
        }
    }

    /** The stream is right: these are its letters, and it was taken whole. */
    ContextUnfolder unfolds(String what, StreamWriter stream, int... letters) {
        ContextUnfolder x = stream.unfolder();
        try {
            equal(what + ": unfold()", x.unfold(), letters.length);
            for (int i = 0; i < letters.length; i++) {
                equal(what + ": letter(" + i + ")", x.letter(i), letters[i]);
            }
        } catch (RuntimeException e) {
            isTrue(what + ": unfolds, but " + e, false);
        }
        equal(what + ": taken()", x.taken(), stream.size());
        return x;
    }

    /** The stream is wrong, and it is seen so behind as many bits as are taken. */
    void wrong(String what, StreamWriter stream, int taken) {
        ContextUnfolder x = stream.unfolder();
        refused(what + ": unfold()", IllegalArgumentException.class, x::unfold);
        equal(what + ": taken()", x.taken(), taken);
        refused(what + ": letter(0)", IndexOutOfBoundsException.class, () -> x.letter(0));
    }

    /** The stream is wrong right behind these bits, whatever stands behind them. */
    void wrongAtOnce(String what, StreamWriter stream) {
        int taken = stream.size();
        wrong(what, stream, taken);
        wrong(what + ", 0s behind", new StreamWriter().append(stream).number(0, 24), taken);
        wrong(what + ", 1s behind", new StreamWriter().append(stream).number(16777215, 24), taken);
    }

    void counts(String what, ContextUnfolder x, int... due) {
        for (int k = 0; k < due.length; k++) {
            equal(what + ": count(" + k + ")", x.count(k), due[k]);
        }
    }

    void end() {
        System.out.println(wrong == 0 ? "all answers are as due" : wrong + " answers are not as due");
        if (wrong != 0) {
            System.exit(1);
        }
    }
}
