/** Promises 8 to 11: the order of work, the passes, and the faults 1, 2 and 3. */
public final class WorkTest {
    private static final int NONE = BeadDesk.NONE;
    private static final Due due = new Due("WorkTest");

    public static void main(String[] args) {
        emptyChart();
        wrongBegins();
        lastRows();
        flatSquares();
        flatSquaresDownFromTheOtherSide();
        flatBricks();
        ringOfSquares();
        ringOfBricks();
        ringFallingWithAGap();
        smallRings();
        caughtOnNothing();
        gapOfRows();
        fullHole();
        stepBeyondLength();
        faultsInTheirOrder();
        stepsOfColours();
        toldStays();
        wrongQuestions();
        due.end();
    }

    private static void emptyChart() {
        BeadDesk x = new BeadDesk();
        due.is("work(3) of nothing", x.work(3), 0);
        due.worked("empty", x, 0, NONE, NONE, 0, 0, 0, 0, NONE);
        due.is("empty: picked(0, 0)", x.picked(0, 0), NONE);
        due.is("empty: woven(0, 0)", x.woven(0, 0), NONE);
        x.beads(4, 4, 2, 0);
        due.is("with two", x.work(3), 2);
        x.beads(4, 4, 2, Charts.code(6, 6));
        due.is("without them again", x.work(3), 0);
        due.worked("empty again", x, 0, NONE, NONE, 0, 0, 0, 0);
        due.is("empty again: order(4, 4)", x.order(4, 4), NONE);
        due.is("empty again: count(6)", x.count(6), 0);
    }

    private static void lastRows() {
        BeadDesk x = new BeadDesk();
        x.beads(10, 10, 2, 0);
        x.beads(11, 10, 2, 0);
        due.is("work(2)", x.work(2), 4);
        due.picked("from row 11 down", x, 0, 11, 11, 10, 10);
        due.picked("from row 11 down", x, 1, 10, 11, 11, 10);
        due.is("work(1)", x.work(1), 4);
        due.picked("up to row 11", x, 0, 10, 10, 11, 11);
        due.picked("up to row 11", x, 1, 11, 10, 10, 11);
    }

    private static void wrongBegins() {
        BeadDesk x = Charts.desk("00");
        due.is("work(-1)", x.work(-1), NONE);
        due.is("work(4)", x.work(4), NONE);
        due.is("nothing is worked", x.worked(0), NONE);
        due.is("work(1)", x.work(1), 2);
        for (int wrong : Charts.WRONG) {
            due.is("work(" + wrong + ")", x.work(wrong), NONE);
        }
        due.picked("what was worked stays", x, 1, 1, 0);
    }

    private static void flatSquares() {
        BeadDesk x = Charts.desk("012", "345", "012");
        due.is("work(0)", x.work(0), 9);
        due.picked("squares", x, 0, 0, 0, 0, 1, 1, 1, 2, 2, 2);
        due.picked("squares", x, 1, 0, 1, 2, 2, 1, 0, 0, 1, 2);
        due.picked("squares", x, 2, 0, 0, 0, 0, 0, 0, 0, 0, 0);
        due.picked("squares", x, 3, 3, 3, 3, 2, 2, 3, 1, 1, 1);
        due.picked("squares", x, 4, 0, 0, 0, 1, 1, 1, 1, 1, 1);
        due.picked("squares", x, 5, 0, 1, 2, 5, 4, 3, 0, 1, 2);
        due.worked("squares", x, 0, NONE, NONE, 1, 19, 981, 19);
        due.is("order(1, 2)", x.order(1, 2), 3);
        due.is("order(2, 2)", x.order(2, 2), 8);
        due.is("order(3, 0)", x.order(3, 0), NONE);
        due.is("count(6)", x.count(6), 9);
    }

    private static void flatSquaresDownFromTheOtherSide() {
        BeadDesk x = Charts.desk("012", "345");
        due.is("work(3)", x.work(3), 6);
        due.picked("down, side 1", x, 0, 1, 1, 1, 0, 0, 0);
        due.picked("down, side 1", x, 1, 2, 1, 0, 0, 1, 2);
        due.is("work(2)", x.work(2), 6);
        due.picked("down, side 0", x, 0, 1, 1, 1, 0, 0, 0);
        due.picked("down, side 0", x, 1, 0, 1, 2, 2, 1, 0);
        due.is("work(1)", x.work(1), 6);
        due.picked("up, side 1", x, 0, 0, 0, 0, 1, 1, 1);
        due.picked("up, side 1", x, 1, 2, 1, 0, 0, 1, 2);
    }

    /** Up, row 1 (odd) is caught on columns k and k + 1, row 2 (even) on k - 1 and k. */
    private static void flatBricks() {
        BeadDesk x = Charts.desk("000", "000", "000");
        x.stitch(1);
        Charts.holes(x, 9);
        due.is("work(0)", x.work(0), 9);
        due.picked("bricks up", x, 1, 0, 1, 2, 2, 1, 0, 0, 1, 2);
        due.picked("bricks up", x, 4, 0, 0, 0, 1, 2, 2, 1, 2, 2);
        // steps: 0 | 1 0 | 2 1 | 2 3 2 | 4 1 2 | 5 0 1 | 5 6 5 | 7 5 4 | 8 4 3
        due.picked("bricks up", x, 3, 3, 4, 4, 2, 3, 4, 1, 1, 1);
        due.worked("bricks up", x, 0, NONE, NONE, 1, 23, 977, 23);
        due.is("work(2)", x.work(2), 9);
        // down, row 1 is caught on k and k + 1 of row 2, row 0 on k - 1 and k of row 1
        due.picked("bricks down", x, 1, 0, 1, 2, 2, 1, 0, 0, 1, 2);
        due.picked("bricks down", x, 0, 2, 2, 2, 1, 1, 1, 0, 0, 0);
        due.picked("bricks down", x, 4, 0, 0, 0, 1, 2, 2, 1, 2, 2);
        BeadDesk y = Charts.desk("............", "...........0");
        y.beads(0, 11, 1, 0);
        y.beads(2, 0, 1, 0);
        y.stitch(1);
        Charts.holes(y, 9);
        due.is("flat bricks are not caught around the end", y.work(0), 2);
        due.worked("end", y, 1, 2, 0, 1, 4, 996, 4);
    }

    private static void ringOfSquares() {
        BeadDesk x = Charts.desk("000", "000");
        x.ring(3);
        Charts.holes(x, 9);
        due.is("work(0)", x.work(0), 6);
        due.picked("ring up", x, 1, 0, 1, 2, 0, 1, 2);
        // steps: 0 | 1 0 | 2 1 0 | 0 3 0 | 4 1 | 5 2
        due.picked("ring up", x, 3, 5, 3, 2, 1, 1, 1);
        due.worked("ring up", x, 0, NONE, NONE, 1, 13, 987, 13);
        due.is("work(3)", x.work(3), 6);
        due.picked("ring down, falling", x, 0, 1, 1, 1, 0, 0, 0);
        due.picked("ring down, falling", x, 1, 2, 1, 0, 2, 1, 0);
        due.picked("ring down, falling", x, 3, 5, 3, 2, 1, 1, 1);
        x.colour(0, 4, 1, 5);
        due.is("hole 4", x.work(0), 3);
        due.worked("hole 4", x, 2, 1, 0, 1, 6, 994, 6);
    }

    private static void ringOfBricks() {
        BeadDesk x = Charts.desk("000", "000", "0");
        x.ring(3);
        x.stitch(1);
        Charts.holes(x, 9);
        due.is("work(0)", x.work(0), 7);
        // steps: 0 | 1 0 | 2 1 0 | 0 3 0 1 | 4 1 2 | 5 0 2 | 3 6 3 5
        due.picked("ring of bricks", x, 4, 0, 0, 0, 2, 2, 2, 2);
        due.picked("ring of bricks", x, 3, 6, 4, 3, 3, 1, 2, 1);
        due.worked("ring of bricks", x, 0, NONE, NONE, 1, 20, 980, 20);
        due.is("hang(2)", x.hang(2), 3);
        due.is("hang(5)", x.hang(5), 1);
    }

    /** The order of the two caught on decides which one of them is found full. */
    private static void ringFallingWithAGap() {
        BeadDesk x = Charts.desk("0.00", "0..0");
        x.ring(4);
        x.stitch(1);
        Charts.holes(x, 9);
        due.is("work(1)", x.work(1), 5);
        due.picked("falling ring", x, 0, 0, 0, 0, 1, 1);
        due.picked("falling ring", x, 1, 3, 2, 0, 3, 0);
        // steps: 0 | 1 0 | 2 1 0 | 0 3 2 0 | 4 2
        due.picked("falling ring", x, 4, 0, 0, 0, 2, 1);
        due.picked("falling ring", x, 3, 5, 2, 3, 1, 1);
    }

    private static void smallRings() {
        BeadDesk x = Charts.desk("0.0");
        x.ring(3);
        due.is("two in a ring", x.work(0), 2);
        due.worked("two in a ring", x, 0, NONE, NONE, 1, 3, 997, 3);
        x.beads(0, 1, 1, 0);
        due.is("three in a ring", x.work(0), 3);
        due.worked("three in a ring", x, 0, NONE, NONE, 1, 6, 994, 6);
        x.ring(0);
        due.is("three flat", x.work(0), 3);
        due.worked("three flat", x, 0, NONE, NONE, 1, 5, 995, 5);
        BeadDesk y = Charts.desk("0", "0", "0");
        y.ring(12);
        due.is("one in a ring", y.work(0), 3);
        // steps: 0 | 0 1 0 | 1 2 1
        due.picked("one in a ring", y, 3, 3, 3, 1);
    }

    private static void caughtOnNothing() {
        BeadDesk x = Charts.desk("00", "..0", "000");
        due.is("work(0)", x.work(0), 2);
        due.worked("caught on nothing", x, 1, 1, 2, 1, 3, 997, 3);
        due.is("order of the faulty bead", x.order(1, 2), NONE);
        due.is("order of one behind it", x.order(2, 0), NONE);
        due.is("work(2)", x.work(2), 4);
        due.worked("caught on nothing down", x, 1, 0, 0, 1, 8, 992, 8);
        due.is("work(3)", x.work(3), 4);
        due.worked("caught on nothing down, side 1", x, 1, 0, 1, 1, 8, 992, 8);
    }

    /** A left out row does not count as a turn, and nothing is caught over it. */
    private static void gapOfRows() {
        BeadDesk x = Charts.desk("", "000", "", "000");
        due.is("work(0)", x.work(0), 3);
        due.worked("gap", x, 1, 3, 2, 1, 5, 995, 5);
        due.is("work(1)", x.work(1), 3);
        due.worked("gap, side 1", x, 1, 3, 0, 1, 5, 995, 5);
        due.is("work(2)", x.work(2), 3);
        due.worked("gap, down", x, 1, 1, 2, 1, 5, 995, 5);
        x.ring(3);
        due.is("work(0) in a ring", x.work(0), 3);
        due.worked("gap in a ring", x, 1, 3, 0, 1, 6, 994, 6);
    }

    private static void fullHole() {
        BeadDesk x = Charts.desk("001", "000");
        x.colour(1, 2, 1, 5);
        due.is("the turn and the catch are two passes", x.work(0), 3);
        due.worked("full hole", x, 2, 1, 2, 1, 5, 995, 5);
        due.picked("full hole", x, 3, 2, 2, 1);
        x.colour(1, 3, 1, 5);
        due.is("room for both", x.work(0), 6);
        x.colour(1, 1, 1, 5);
        due.is("hole 1", x.work(1), 1);
        due.worked("hole 1", x, 2, 0, 1, 1, 1, 999, 1);
        BeadDesk y = Charts.desk("01", "0");
        y.colour(1, 1, 1, 5);
        due.is("the turn alone is too much", y.work(0), 2);
        due.worked("the turn alone", y, 2, 1, 0, 1, 3, 997, 3);
    }

    private static void stepBeyondLength() {
        BeadDesk x = Charts.desk("0");
        x.thread(4, 0);
        x.colour(0, 9, 5, 5);
        due.is("the first bead is too long", x.work(0), 0);
        due.worked("first bead", x, 3, 0, 0, 0, 0, 0, 0);
        x.thread(5, 0);
        due.is("just long enough", x.work(0), 1);
        due.worked("just long enough", x, 0, NONE, NONE, 1, 5, 0, 1);
        x.beads(0, 1, 1, 0);
        due.is("the second needs 10", x.work(0), 1);
        due.worked("second bead", x, 3, 0, 1, 1, 5, 0, 1);
        x.thread(10, 0);
        due.is("length 10", x.work(0), 2);
        due.worked("length 10", x, 0, NONE, NONE, 2, 15, 0, 3);
    }

    private static void faultsInTheirOrder() {
        BeadDesk x = Charts.desk("00", "..1");
        x.thread(3, 6);
        x.colour(1, 1, 20, 5);
        x.work(0);
        due.is("1 ahead of 3, 4 and 2", x.worked(0), 1);
        x.beads(1, 0, 3, Charts.code(6, 1, 6));
        x.work(0);
        due.is("3 ahead of 4 and 2", x.worked(0), 3);
        x.colour(1, 1, 1, 5);
        x.colour(0, 2, 1, 5);
        x.work(0);
        due.is("4 ahead of 2", x.worked(0), 4);
        x.thread(3, 0);
        x.work(0);
        due.worked("2 at the end", x, 2, 1, 1, 2, 3, 3, 3);
    }

    private static void stepsOfColours() {
        BeadDesk x = Charts.desk("01", "23");
        x.colour(0, 9, 2, 5);
        x.colour(1, 9, 3, 5);
        x.colour(2, 9, 5, 5);
        x.colour(3, 9, 7, 5);
        due.is("work(0)", x.work(0), 4);
        // 2 | 3 2 | 3 7 3 | 5 2
        due.worked("steps of colours", x, 0, NONE, NONE, 1, 27, 973, 8);
    }

    private static void toldStays() {
        BeadDesk x = Charts.desk("01", "23");
        x.thread(6, 1);
        Charts.holes(x, 9);
        x.work(0);
        String told = Charts.told(x);
        x.beads(0, 0, 2, Charts.code(6, 5));
        x.beads(2, 0, 2, 0);
        due.is("beads", Charts.told(x).equals(told), true);
        x.stitch(1);
        x.ring(3);
        due.is("stitch and ring", Charts.told(x).equals(told), true);
        x.colour(0, 1, 20, 5);
        x.thread(1, 6);
        due.is("colour and thread", Charts.told(x).equals(told), true);
        due.is("the colour of a bead that is gone", x.picked(0, 5), 0);
        due.is("the order of a bead that is gone", x.order(0, 0), 0);
        x.work(0);
        due.is("until it is worked anew", Charts.told(x).equals(told), false);
    }

    private static void wrongQuestions() {
        BeadDesk x = Charts.desk("00", "00");
        x.work(0);
        for (int wrong : Charts.WRONG) {
            due.is("worked", x.worked(wrong), NONE);
            due.is("picked k", x.picked(wrong, 0), NONE);
            due.is("picked what", x.picked(0, wrong), NONE);
            due.is("order row", x.order(wrong, 0), NONE);
            due.is("order column", x.order(0, wrong), NONE);
        }
        due.is("worked(-1)", x.worked(-1), NONE);
        due.is("worked(7)", x.worked(7), NONE);
        due.is("picked(0, -1)", x.picked(0, -1), NONE);
        due.is("picked(0, 6)", x.picked(0, 6), NONE);
        due.is("picked(-1, 0)", x.picked(-1, 0), NONE);
        due.is("picked(4, 0)", x.picked(4, 0), NONE);
        due.is("order(0, -1)", x.order(0, -1), NONE);
        due.is("order(1, -12)", x.order(1, -12), NONE);
        due.is("order(0, 12)", x.order(0, 12), NONE);
        due.is("order(-1, 12)", x.order(-1, 12), NONE);
        due.is("order(12, 0)", x.order(12, 0), NONE);
    }
}
