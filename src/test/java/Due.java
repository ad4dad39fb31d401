/** Keeps count of the answers that are not as due; each test has one and ends with it. */
final class Due {
    private final String test;
    private int asked = 0;
    private int wrong = 0;

    Due(String test) {
        this.test = test;
    }

    void is(String call, long got, long want) {
        asked++;
        if (got != want) {
            wrong++;
            if (wrong <= 40) {
                System.out.println(test + ": " + call + " answered " + got + ", due is " + want);
            }
        }
    }

    void is(String call, boolean got, boolean want) {
        is(call, got ? 1 : 0, want ? 1 : 0);
    }

    /** The answers of worked(0), worked(1), .. in one go. */
    void worked(String when, BeadDesk desk, int... want) {
        for (int what = 0; what < want.length; what++) {
            is(when + ": worked(" + what + ")", desk.worked(what), want[what]);
        }
    }

    /** One property of all picked beads, from the 0th on, and NONE behind them. */
    void picked(String when, BeadDesk desk, int what, int... want) {
        for (int k = 0; k < want.length; k++) {
            is(when + ": picked(" + k + ", " + what + ")", desk.picked(k, what), want[k]);
        }
        is(when + ": picked(" + want.length + ", " + what + ")", desk.picked(want.length, what), BeadDesk.NONE);
    }

    void end() {
        System.out.println(test + ": " + asked + " answers, " + wrong + " not as due");
        if (wrong != 0) {
            System.exit(1);
        }
    }
}
