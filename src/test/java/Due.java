/** Counts the answers of one test program that are not as due, sentence by sentence of the document. */
final class Due {
    private final String program;
    private String sentence = "";
    private int asked = 0;
    private int wrong = 0;

    Due(String program) {
        this.program = program;
    }

    /** A test of its own for the words of the document that it bears as its name. */
    void sentence(String words, Runnable test) {
        int askedBefore = asked;
        int wrongBefore = wrong;
        sentence = words;
        try {
            test.run();
        } catch (RuntimeException e) {
            // No call may throw; and a run of calls that can't be gone through is a failure as well.
            isWrong("threw " + e);
        }
        if (asked == askedBefore) {
            isWrong("asked nothing");
        }
        System.out.println((wrong == wrongBefore ? "  ok      " : "  FAILED  ") + words);
        sentence = "";
    }

    void is(String call, Object got, Object want) {
        asked++;
        if (!got.equals(want)) {
            isWrong(call + " answered " + got + ", due is " + want);
        }
    }

    private void isWrong(String what) {
        wrong++;
        System.out.println(program + (sentence.isEmpty() ? ": " : ": " + sentence + ": ") + what);
    }

    void end() {
        System.out.println(program + ": " + asked + " answers, " + wrong + " not as due");
        if (wrong != 0 || asked == 0) {
            System.exit(1);
        }
    }
}
