/** One test for each sentence about mending and the best begin that names an edge: Terms, promises 12 to 14 and 16. */
public final class MendEdgesTest {
    private static final int NONE = BeadDesk.NONE;
    private static final int MIN = Integer.MIN_VALUE;
    private static final int MAX = Integer.MAX_VALUE;
    private static final Due due = new Due("MendEdgesTest");

    public static void main(String[] args) {
        nothingHangs();
        onlyPickedHang();
        eachHangsOnce();
        hangsOnThese();
        pulledItself();
        behindItInTheSamePiece();
        caughtOnIt();
        wovenInNotOff();
        pieceWithoutBeads();
        andSoOn();
        hangWithoutIt();
        pullWithoutIt();
        pulledWithoutThese();
        onlyWithoutAFault();
        fewestPieces();
        leastThread();
        thenTheFirst();
        bestOfNothing();
        noneWithoutAFault();
        workedIsThatThen();
        due.end();
    }

    private static BeadDesk worked(int length, int weave, int hole, String... rows) {
        BeadDesk x = Charts.desk(rows);
        Charts.holes(x, hole);
        x.thread(length, weave);
        x.work(0);
        return x;
    }

    private static void hangs(String what, BeadDesk x, int... want) {
        for (int k = 0; k < want.length; k++) {
            due.is(what + ": hang(" + k + ")", x.hang(k), want[k]);
        }
        due.is(what + ": hang behind the last", x.hang(want.length), NONE);
    }

    /** Row k tells who is pulled out with the k-th; its length is how many are picked. */
    private static void pulls(String what, BeadDesk x, String... want) {
        due.is(what + ": picked", x.count(6), want.length);
        for (int k = 0; k < want.length; k++) {
            int out = 0;
            for (int l = 0; l < want.length; l++) {
                int is = want[k].charAt(l) - '0';
                due.is(what + ": pulled(" + k + ", " + l + ")", x.pulled(k, l), is);
                out += is;
            }
            due.is(what + ": pull(" + k + ")", x.pull(k), out);
        }
    }

    private static void nothingHangs() {
        due.about("III", "HANG: on a BEAD hang those PICKED that are CAUGHT on it");
        hangs("one", worked(100, 2, 9, "0"), 0);
        hangs("the first row does not hang on itself", worked(100, 2, 9, "000"), 0, 0, 0);
        hangs("a turn is no catch", worked(100, 2, 9, "00", "0"), 1, 0, 0);
    }

    /** The fourth bead would pass the first one's hole once too often. */
    private static void onlyPickedHang() {
        due.about("III", "those PICKED");
        BeadDesk x = Charts.desk("10", "00");
        x.colour(1, 2, 1, 5);
        due.is("work(0)", x.work(0), 3);
        hangs("(1, 0) is not picked", x, 0, 1, 0);
        x.colour(1, 3, 1, 5);
        due.is("work(0) with room", x.work(0), 4);
        hangs("(1, 0) is picked", x, 1, 1, 0, 0);
    }

    /** Bricks: both of row 1 are caught on (0, 1), and (2, 1) on both of these. */
    private static void eachHangsOnce() {
        due.about("III", "and those that hang on these");
        BeadDesk x = Charts.desk("00", "00", "00");
        Charts.holes(x, 9);
        x.stitch(1);
        due.is("work(0)", x.work(0), 6);
        due.picked("columns", x, 1, 0, 1, 1, 0, 0, 1);
        hangs("each once", x, 3, 4, 1, 2, 0, 0);
    }

    private static void hangsOnThese() {
        due.about("III", "on a BEAD hang those PICKED that are CAUGHT on it, and those that hang on these");
        BeadDesk x = Charts.all("0");
        due.is("twelve rows of one", x.work(0), 12);
        hangs("twelve rows of one", x, 11, 10, 9, 8, 7, 6, 5, 4, 3, 2, 1, 0);
        due.is("down", x.work(2), 12);
        due.is("on row 11", x.hang(x.order(11, 0)), 11);
        due.is("on row 0", x.hang(x.order(0, 0)), 0);
    }

    private static void pulledItself() {
        due.about("Promise 13", "How many BEADS must be PULLED OUT to mend the k-th PICKED (with it)");
        pulls("one", worked(100, 2, 9, "0"), "1");
        BeadDesk x = Charts.all("000000000000");
        Charts.holes(x, 9);
        x.work(0);
        due.is("the first of all", x.pull(0), 144);
        due.is("the last of all", x.pull(143), 1);
        due.is("pulled(143, 143)", x.pulled(143, 143), 1);
        due.is("pulled(143, 142)", x.pulled(143, 142), 0);
    }

    private static void behindItInTheSamePiece() {
        due.about("III", "with a BEAD all that were PICKED behind it in the same PIECE");
        pulls("one piece", worked(5, 0, 9, "000"), "111", "011", "001");
        // steps 1 2 | 2 2 | 2, nothing woven
        pulls("three pieces", worked(4, 0, 9, "00000"), "11000", "01000", "00110", "00010", "00001");
    }

    /** Steps 0, 1 0 | 1 2 1 | 3 0 in three pieces. */
    private static void caughtOnIt() {
        due.about("III", "all that are CAUGHT on it");
        BeadDesk x = Charts.desk("12", "30");
        Charts.holes(x, 9);
        x.thread(3, 0);
        x.work(0);
        due.picked("pieces", x, 2, 0, 0, 1, 2);
        pulls("caught", x, "1111", "0110", "0010", "0001");
    }

    /** The old piece is woven off through 1; the new one, of bead 3 alone, is woven in through 0 or 1. */
    private static void wovenInNotOff() {
        due.about("III", "if a PIECE is woven in through it, all BEADS of that PIECE");
        BeadDesk x = Charts.desk("00", "21");
        x.colour(0, 4, 1, 5);
        x.colour(1, 1, 1, 5);
        x.thread(6, 1);
        due.is("work(0)", x.work(0), 4);
        due.is("woven in through 0", x.woven(1, 0), 0);
        pulls("woven off through 1", x, "1111", "0110", "0010", "0001");
        x.colour(0, 9, 1, 5);
        x.work(0);
        due.is("woven in through 1", x.woven(1, 0), 1);
        pulls("woven in through 1", x, "1111", "0111", "0010", "0001");
        // 0 1 2 | 3 4 and the second piece woven in through 2 and 1
        pulls("all beads of the piece", worked(5, 2, 9, "00000"), "11111", "01111", "00111", "00011", "00001");
    }

    private static void pieceWithoutBeads() {
        due.about("III", "all BEADS of that PIECE");
        BeadDesk x = worked(2, 1, 3, "00");
        due.worked("a join ahead of a fault 2", x, 2, 0, 1, 2);
        due.is("woven in through 0", x.woven(1, 0), 0);
        pulls("the new piece has no bead", x, "1");
    }

    /** Pieces 0 1 | 2 3 | 4, woven in through 1 and 3. */
    private static void andSoOn() {
        due.about("III", "and so on with each of these");
        pulls("from piece to piece", worked(4, 1, 9, "00000"), "11111", "01111", "00111", "00011", "00001");
        // squares, nothing woven: 0 1 | 2 | 3 | 4 | 5, and 5 is caught on 0, 4 on 1, 3 on 2, then 6 on 5
        BeadDesk x = worked(3, 0, 9, "000", "000", "0");
        due.picked("pieces", x, 2, 0, 0, 1, 2, 3, 4, 5);
        pulls("from catch to catch", x, "1100111", "0100100", "0011000", "0001000", "0000100", "0000011", "0000001");
    }

    private static void hangWithoutIt() {
        due.about("Promise 12", "How many BEADS hang on the k-th PICKED; NONE without it.");
        BeadDesk x = Charts.desk("00", "..0");
        due.is("ahead of any", x.hang(0), NONE);
        x.work(0);
        int[] bad = {-1, 2, 144, MIN, MAX};
        for (int k : bad) {
            due.is("hang(" + k + ")", x.hang(k), NONE);
        }
        due.is("hang(0)", x.hang(0), 0);
        due.is("hang(1)", x.hang(1), 0);
    }

    private static void pullWithoutIt() {
        due.about("Promise 13", "NONE without it");
        BeadDesk x = Charts.desk("00", "..0");
        due.is("ahead of any", x.pull(0), NONE);
        x.work(0);
        int[] bad = {-1, 2, 144, MIN, MAX};
        for (int k : bad) {
            due.is("pull(" + k + ")", x.pull(k), NONE);
        }
        due.is("pull(0)", x.pull(0), 2);
        due.is("pull(1)", x.pull(1), 1);
    }

    private static void pulledWithoutThese() {
        due.about("Promise 14", "1 if the l-th PICKED must be PULLED OUT to mend the k-th, 0 if not; "
            + "NONE without these.");
        BeadDesk x = Charts.desk("00", "..0");
        due.is("ahead of any", x.pulled(0, 0), NONE);
        x.work(0);
        int[] bad = {-1, 2, 144, MIN, MAX};
        for (int b : bad) {
            due.is("pulled(" + b + ", 0)", x.pulled(b, 0), NONE);
            due.is("pulled(0, " + b + ")", x.pulled(0, b), NONE);
            due.is("pulled(" + b + ", " + b + ")", x.pulled(b, b), NONE);
        }
        due.is("pulled(0, 0)", x.pulled(0, 0), 1);
        due.is("pulled(0, 1)", x.pulled(0, 1), 1);
        due.is("pulled(1, 0)", x.pulled(1, 0), 0);
    }

    /** Up, the work stops with fewer pieces and less thread than down, 1 | 1 2 1. */
    private static void onlyWithoutAFault() {
        due.about("III", "THE BEST: of those without a FAULT");
        BeadDesk x = Charts.desk("1", "0");
        x.colour(1, 9, 2, 5);
        x.thread(4, 0);
        x.work(0);
        due.worked("up", x, 3, 1, 0);
        due.is("down is the only one", x.best(), 2);
        due.worked("down", x, 0, NONE, NONE, 2, 5, 0, 4);
        BeadDesk y = Charts.desk("00", "000");
        due.is("up a bead is caught on nothing", y.best(), 2);
        BeadDesk z = Charts.desk("000", "00");
        due.is("down a bead is caught on nothing", z.best(), 0);
    }

    /** Up, side 0: 6 7 3 | 12 8 in 36; side 1: 1 7 | 18 2 | 3 in 31; down: caught on nothing. */
    private static void fewestPieces() {
        due.about("III", "the fewest PIECES");
        BeadDesk x = dearFirstColumn();
        x.thread(20, 0);
        x.work(0);
        due.worked("side 0", x, 0, NONE, NONE, 2, 36);
        x.work(1);
        due.worked("side 1", x, 0, NONE, NONE, 3, 31);
        due.is("best()", x.best(), 0);
        due.worked("best", x, 0, NONE, NONE, 2, 36);
    }

    private static BeadDesk dearFirstColumn() {
        BeadDesk x = Charts.desk("10", "10", ".0");
        Charts.holes(x, 9);
        x.colour(1, 9, 6, 5);
        return x;
    }

    private static void leastThread() {
        due.about("III", "then the least thread");
        BeadDesk x = dearFirstColumn();
        x.work(0);
        due.worked("side 0", x, 0, NONE, NONE, 1, 36);
        due.is("best()", x.best(), 1);
        due.worked("best", x, 0, NONE, NONE, 1, 31);
    }

    private static void thenTheFirst() {
        due.about("III", "then the first");
        BeadDesk all = Charts.desk("00", "00");
        all.work(3);
        due.is("of all four", all.best(), 0);
        due.is("it is worked", all.order(0, 0), 0);
        BeadDesk down = Charts.desk("0", "00");
        due.is("of the two that go down", down.best(), 2);
        due.is("it is worked then", down.order(1, 0), 0);
        // the second turn passes the dear column from side 0 and the other one from side 1, up and down alike
        BeadDesk sides = Charts.desk("10", "10", "10");
        sides.colour(1, 9, 2, 5);
        sides.work(1);
        int thread = sides.worked(4);
        sides.work(3);
        due.is("1 and 3 are alike", sides.worked(4), thread);
        sides.work(0);
        due.is("0 needs more", sides.worked(4) > thread, true);
        due.is("of 1 and 3", sides.best(), 1);
    }

    private static void bestOfNothing() {
        due.about("Promise 16", "THE BEST BEGIN");
        BeadDesk x = new BeadDesk();
        due.is("of an empty chart", x.best(), 0);
        due.worked("an empty chart", x, 0, NONE, NONE, 0, 0, 0, 0);
        due.is("nothing is picked", x.count(6), 0);
    }

    private static void noneWithoutAFault() {
        due.about("Promise 16", "NONE: none without a FAULT. (What was worked is that then; without one it stays.)");
        BeadDesk x = Charts.desk("00", "", "000");
        due.is("ahead of any", x.best(), NONE);
        due.is("nothing is worked", x.worked(0), NONE);
        x.work(3);
        String told = Charts.told(x);
        due.is("behind a work", x.best(), NONE);
        due.is("it stays", Charts.told(x), told);
        x.beads(1, 0, 3, 0);
        x.work(2);
        told = Charts.told(x);
        x.thread(1, 0);
        due.is("behind a work without a fault", x.best(), NONE);
        due.is("it stays, too", Charts.told(x), told);
    }

    private static void workedIsThatThen() {
        due.about("Promise 16", "What was worked is that then");
        BeadDesk x = dearFirstColumn();
        BeadDesk y = dearFirstColumn();
        x.work(3);
        due.is("best()", x.best(), 1);
        y.work(1);
        due.is("as if it were worked", Charts.told(x), Charts.told(y));
        due.is("best() once more", x.best(), 1);
        due.is("the same again", Charts.told(x), Charts.told(y));
    }
}
