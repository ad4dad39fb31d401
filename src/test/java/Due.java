/**
 * Keeps count of the answers that are not as due; each test has one and ends with it. A test that belongs to one
 * sentence of the document says so with about(), and a wrong answer then tells the sentence that is broken.
 */
final class Due {
    private final String test;
    private int asked = 0;
    private int wrong = 0;
    private int sentences = 0;
    private String sentence = "";

    Due(String test) {
        this.test = test;
    }

    /** The words of the document (and where they stand) that all answers up to the next about() belong to. */
    void about(String place, String words) {
        sentences++;
        sentence = " [" + place + ": " + words + "]";
    }

    void is(String call, long got, long want) {
        asked++;
        if (got != want) {
            wrong++;
            if (wrong <= 40) {
                System.out.println(test + sentence + ": " + call + " answered " + got + ", due is " + want);
            }
        }
    }

    void is(String call, String got, String want) {
        is(call + " (" + got + " instead of " + want + ")", got.equals(want), true);
    }

    void is(String call, boolean got, boolean want) {
        is(call, got ? 1 : 0, want ? 1 : 0);
    }

    /** The answers of worked(0), worked(1), .. in one go. */
    void worked(String when, BeadDesk desk, int... want) {
        for (int what = 0; what < want.length; what++) {
            is(when + ": worked(" + what + ")", desk.worked(what), want[what]);
        }
    }

    /** One property of all picked beads, from the 0th on, and NONE behind them. */
    void picked(String when, BeadDesk desk, int what, int... want) {
        for (int k = 0; k < want.length; k++) {
            is(when + ": picked(" + k + ", " + what + ")", desk.picked(k, what), want[k]);
        }
        is(when + ": picked(" + want.length + ", " + what + ")", desk.picked(want.length, what), BeadDesk.NONE);
    }

    void end() {
        String of = sentences == 0 ? "" : " to " + sentences + " sentences";
        System.out.println(test + ": " + asked + " answers" + of + ", " + wrong + " not as due");
        if (wrong != 0) {
            System.exit(1);
        }
    }
}
