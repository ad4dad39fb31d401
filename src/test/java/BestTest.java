/** Promise 16: the best of the four begins. */
public final class BestTest {
    private static final int NONE = BeadDesk.NONE;
    private static final Due due = new Due("BestTest");

    public static void main(String[] args) {
        emptyChart();
        allAlike();
        onlyWithoutAFault();
        leastThread();
        fewestPiecesFirst();
        noneWithoutAFault();
        due.end();
    }

    private static void emptyChart() {
        BeadDesk x = new BeadDesk();
        due.is("best() of nothing", x.best(), 0);
        due.worked("nothing", x, 0, NONE, NONE, 0, 0, 0, 0);
    }

    private static void allAlike() {
        BeadDesk x = Charts.desk("000", "000");
        x.work(3);
        due.is("the first of alike ones", x.best(), 0);
        due.is("it is worked then", x.order(0, 0), 0);
        due.is("with all beads", x.count(6), 6);
    }

    private static void onlyWithoutAFault() {
        BeadDesk x = Charts.desk("00", "000");
        due.is("up, (1, 2) is caught on nothing", x.best(), 2);
        due.is("it is worked then", x.order(1, 0), 0);
        // up, side 0, the turn needs 20 1 1
        x = Charts.desk("0001", "000");
        Charts.holes(x, 9);
        x.colour(1, 9, 20, 5);
        x.thread(21, 0);
        due.is("side 1 has no dear turn", x.best(), 1);
        due.is("it is worked then", x.order(0, 3), 0);
        due.worked("side 1", x, 0, NONE, NONE, 3, 52, 10, 14);
    }

    /** Up, side 0: 6 | 1 6 | 1 1 1 | 6 6 | 6 1 1; side 1: 1 | 6 1 | 6 6 6 | 1 1 | 1 1 1; down: caught on nothing. */
    private static void leastThread() {
        BeadDesk x = dearFirstColumn();
        x.work(0);
        due.worked("side 0", x, 0, NONE, NONE, 1, 36, 964, 11);
        x.work(1);
        due.worked("side 1", x, 0, NONE, NONE, 1, 31, 969, 11);
        x.work(2);
        due.is("down", x.worked(0), 1);
        due.is("best()", x.best(), 1);
        due.worked("best", x, 0, NONE, NONE, 1, 31, 969, 11);
    }

    private static BeadDesk dearFirstColumn() {
        BeadDesk x = Charts.desk("10", "10", ".0");
        Charts.holes(x, 9);
        x.colour(1, 9, 6, 5);
        return x;
    }

    private static void fewestPiecesFirst() {
        BeadDesk x = dearFirstColumn();
        x.thread(20, 0);
        x.work(1);
        due.worked("side 1", x, 0, NONE, NONE, 3, 31, 17, 11);
        due.is("two pieces go ahead of less thread", x.best(), 0);
        due.worked("best", x, 0, NONE, NONE, 2, 36, 0, 11);
        // down, side 0: 4 5 2 | 5 | 12 | 5 2 3 | 5; side 1: 4 5 2 | 5 6 | 5 8 | 9 2
        BeadDesk y = Charts.desk(".00.", ".011", "1001");
        Charts.holes(y, 9);
        y.colour(1, 9, 4, 5);
        y.thread(14, 0);
        y.work(2);
        due.worked("down, side 0", y, 0, NONE, NONE, 5, 43, 9);
        due.is("four pieces go ahead of less thread", y.best(), 3);
        due.worked("down, side 1", y, 0, NONE, NONE, 4, 46, 3);
    }

    private static void noneWithoutAFault() {
        BeadDesk x = Charts.desk("0.0", "", "000");
        due.is("best() ahead of any work", x.best(), NONE);
        due.is("still nothing worked", x.worked(0), NONE);
        due.is("nothing picked", x.count(6), 0);
        x.work(1);
        due.is("best()", x.best(), NONE);
        due.worked("what was worked stays", x, 1, 2, 0, 1, 3, 997, 3);
        due.picked("what was worked stays", x, 1, 2, 0);
        x.beads(0, 0, 3, Charts.code(6, 6, 6));
        due.is("mended", x.best(), 0);
        due.is("worked", x.count(6), 3);
    }
}
