/** One test for each sentence about pieces and joins that names an edge: Terms, promises 9, 10 and 15. */
public final class JoinEdgesTest {
    private static final int NONE = BeadDesk.NONE;
    private static final int MIN = Integer.MIN_VALUE;
    private static final int MAX = Integer.MAX_VALUE;
    private static final Due due = new Due("JoinEdgesTest");

    public static void main(String[] args) {
        lengths();
        weavesAtFirst();
        leastAndMostWeave();
        firstPiece();
        lessThanNeeded();
        eachAtMostOnce();
        fromTheLastOneBack();
        roomForAPass();
        whicheverHaveRoomThen();
        noThreadForWeaving();
        newLength();
        fewerForTheOldOne();
        fewerForTheNewOne();
        joinThatStays();
        joinThatFillsTheHole();
        manyPieces();
        pieceOfABead();
        passesOfAllHoles();
        firstPieceIsNotWoven();
        ithOfThem();
        wovenOfTheLatestWork();
        due.end();
    }

    /** Colour 0 of a hole that is told, colour 1 of a hole of one. */
    private static BeadDesk desk(int length, int weave, int hole, String... rows) {
        BeadDesk x = Charts.desk(rows);
        Charts.holes(x, hole);
        x.colour(1, 1, 1, 5);
        x.thread(length, weave);
        return x;
    }

    private static void lengths() {
        due.about("II", "PIECES of thread, each of a LENGTH (1 to 9999; 1000 at first)");
        BeadDesk x = Charts.desk("0");
        x.work(0);
        due.is("left at first", x.worked(5), 999);
        x.thread(9999, 2);
        x.work(0);
        due.is("left of the longest", x.worked(5), 9998);
        x.thread(1, 2);
        due.is("one bead takes the shortest", x.work(0), 1);
        due.worked("the shortest", x, 0, NONE, NONE, 1, 1, 0, 1);
        x.beads(0, 1, 1, 0);
        due.is("but not a second one", x.work(0), 1);
        due.is("fault", x.worked(0), 3);
    }

    /** Each pass needs 20: the rows need 460, then 500, and the 40 that are left are too few for the turn. */
    private static void weavesAtFirst() {
        due.about("II", "WEAVE (0 to 6; 2 at first)");
        String row = "000000000000";
        BeadDesk x = Charts.desk(row, row, row);
        x.colour(0, 9, 20, 5);
        due.is("work(0)", x.work(0), 36);
        due.is("pieces", x.worked(3), 2);
        due.is("woven(1, 0)", x.woven(1, 0), 23);
        due.is("woven(1, 1)", x.woven(1, 1), 22);
        due.is("woven(1, 2)", x.woven(1, 2), NONE);
    }

    private static void leastAndMostWeave() {
        due.about("Promise 6", "LENGTH and WEAVE: true");
        BeadDesk none = desk(2, 0, 2, "000");
        due.is("with none a join can always be", none.work(0), 3);
        due.worked("none", none, 0, NONE, NONE, 3, 5, 0, 5);
        due.is("nothing is woven", none.woven(1, 0), NONE);
        BeadDesk six = desk(11, 6, 9, "0000000");
        due.is("six", six.work(0), 7);
        due.is("the sixth", six.woven(1, 5), 0);
        due.is("no seventh", six.woven(1, 6), NONE);
        BeadDesk five = desk(9, 6, 9, "000000");
        due.is("six of five", five.work(0), 5);
        due.is("can't be", five.worked(0), 4);
    }

    private static void firstPiece() {
        due.about("II", "The first PIECE begins with the first BEAD.");
        BeadDesk x = new BeadDesk();
        x.work(0);
        due.is("no bead, no piece", x.worked(3), 0);
        x.beads(4, 4, 1, 0);
        x.thread(1, 6);
        due.is("it takes no join", x.work(0), 1);
        due.worked("one bead", x, 0, NONE, NONE, 1, 1, 0, 1);
        due.is("its piece", x.picked(0, 2), 0);
        x.colour(0, 3, 2, 5);
        due.is("a first bead that can't be", x.work(0), 0);
        due.is("no piece", x.worked(3), 0);
    }

    private static void lessThanNeeded() {
        due.about("II", "If what is left of a PIECE is less than a STEP needs (its passes' STEPS), "
            + "a JOIN comes ahead of it");
        BeadDesk x = desk(5, 1, 9, "000");
        due.is("just enough is left", x.work(0), 3);
        due.worked("just enough", x, 0, NONE, NONE, 1, 5, 0, 5);
        due.picked("just enough", x, 2, 0, 0, 0);
        x.thread(4, 1);
        due.is("one less", x.work(0), 3);
        due.worked("one less", x, 0, NONE, NONE, 2, 5, 2, 7);
        due.picked("one less", x, 2, 0, 0, 1);
        BeadDesk y = desk(3, 6, 9, "00");
        due.is("nothing is left at the end", y.work(0), 2);
        due.worked("no join behind the last bead", y, 0, NONE, NONE, 1, 3, 0, 3);
    }

    private static void eachAtMostOnce() {
        due.about("II", "(from the last one back, each at most once)");
        BeadDesk x = desk(2, 1, 9, "00");
        due.is("one of one", x.work(0), 2);
        due.is("once off, once in, once by the next", x.picked(0, 3), 4);
        x.thread(2, 2);
        due.is("two of one", x.work(0), 1);
        due.worked("two of one", x, 4, 0, 1, 1, 1, 1, 1);
    }

    private static void fromTheLastOneBack() {
        due.about("II", "the old PIECE is woven off through the last WEAVE BEADS picked up");
        BeadDesk x = desk(7, 3, 9, "00000");
        due.is("work(0)", x.work(0), 5);
        due.picked("the last three of four", x, 3, 2, 4, 4, 4, 1);
        x.thread(7, 4);
        due.is("all four", x.work(0), 5);
        due.picked("all four", x, 3, 4, 4, 4, 4, 1);
    }

    /** Steps: 0 | 1 0 | 1 2 1 | 3 0, of which the first three need all of the first piece; bead 2 is full at once. */
    private static BeadDesk fullLastBead(int hole) {
        return desk(6, 1, hole, "00", "01");
    }

    private static void roomForAPass() {
        due.about("II", "that have room for a pass");
        BeadDesk x = fullLastBead(9);
        due.is("work(0)", x.work(0), 4);
        due.is("the full one is left out", x.woven(1, 0), 1);
        due.picked("the full one is left out", x, 3, 3, 5, 1, 1);
        x.colour(1, 2, 1, 5);
        due.is("room for the old piece", x.work(0), 4);
        due.is("not for the new one", x.woven(1, 0), 1);
        due.picked("room for one", x, 3, 3, 4, 2, 1);
        x.colour(1, 3, 1, 5);
        due.is("room for both", x.work(0), 4);
        due.is("through the last one", x.woven(1, 0), 2);
        due.picked("room for both", x, 3, 3, 3, 3, 1);
    }

    private static void whicheverHaveRoomThen() {
        due.about("II", "then the new one is woven in likewise through the last WEAVE that have room then, "
            + "whichever these are");
        BeadDesk x = fullLastBead(4);
        due.is("work(0)", x.work(0), 4);
        due.is("off through 1, in through 0", x.woven(1, 0), 0);
        due.picked("another one for the new piece", x, 3, 4, 4, 1, 1);
        due.worked("another one for the new piece", x, 0, NONE, NONE, 2, 8, 4, 10);
    }

    private static void noThreadForWeaving() {
        due.about("II", "each is passed once more (no thread is counted for that)");
        BeadDesk x = desk(11, 6, 9, "0000000");
        due.is("work(0)", x.work(0), 7);
        due.is("thread", x.worked(4), 13);
        due.is("left", x.worked(5), 9);
        due.is("passes", x.worked(6), 13 + 12);
    }

    private static void newLength() {
        due.about("II", "the new PIECE has its LENGTH");
        BeadDesk x = desk(3, 1, 9, "0000");
        due.is("work(0)", x.work(0), 4);
        // steps 1 2 | 2 | 2
        due.picked("what was left is lost", x, 2, 0, 0, 1, 2);
        due.worked("what was left is lost", x, 0, NONE, NONE, 3, 7, 1, 11);
        BeadDesk y = desk(2, 0, 9, "00");
        due.is("a step of the whole length", y.work(0), 2);
        due.worked("a step of the whole length", y, 0, NONE, NONE, 2, 3, 0, 3);
    }

    private static void fewerForTheOldOne() {
        due.about("II", "Fewer than WEAVE for one of both: it can't be, and nothing of it is done.");
        for (int weave = 0; weave <= 6; weave++) {
            BeadDesk x = desk(3, weave, 9, "000");
            due.is("two picked, weave " + weave, x.work(0), weave <= 2 ? 3 : 2);
            due.is("fault, weave " + weave, x.worked(0), weave <= 2 ? 0 : 4);
            if (weave > 2) {
                due.worked("nothing is done, weave " + weave, x, 4, 0, 2, 1, 3, 0, 3);
                due.picked("nothing is done, weave " + weave, x, 3, 2, 1);
                due.picked("nothing is done, weave " + weave, x, 2, 0, 0);
                due.is("nothing is woven in", x.woven(1, 0), NONE);
            }
        }
    }

    /** Bead 1 is full ahead of the join, bead 0 has room for one. */
    private static void fewerForTheNewOne() {
        due.about("II", "Fewer than WEAVE for one of both");
        BeadDesk x = fullLastBead(3);
        due.is("work(0)", x.work(0), 3);
        due.worked("nothing is done", x, 4, 1, 0, 1, 6, 0, 6);
        due.picked("nothing is done", x, 3, 2, 3, 1);
        due.is("nothing is woven in", x.woven(1, 0), NONE);
        // off through 1 and 0, then 1 alone has room
        BeadDesk y = desk(3, 2, 3, "000");
        due.is("one of two", y.work(0), 2);
        due.worked("nothing is done of one", y, 4, 0, 2, 1, 3, 0, 3);
        due.picked("nothing is done of one", y, 3, 2, 1);
    }

    private static void joinThatStays() {
        due.about("II", "A JOIN ahead of a FAULT 2 stays done.");
        BeadDesk x = desk(3, 1, 9, "010");
        due.is("off and in through 0, then 1 is full", x.work(0), 2);
        due.worked("the join stays", x, 2, 0, 2, 2, 3, 3, 5);
        due.picked("the join stays", x, 3, 4, 1);
        due.picked("no bead of the new piece", x, 2, 0, 0);
        due.is("it is woven in", x.woven(1, 0), 0);
        due.is("pull(0): no bead comes with the new piece", x.pull(0), 2);
    }

    private static void joinThatFillsTheHole() {
        due.about("II", "4 a JOIN comes and can't be; 2 a pass");
        BeadDesk x = desk(2, 1, 4, "00");
        due.is("just room for the join and the pass", x.work(0), 2);
        due.is("full", x.picked(0, 3), 4);
        Charts.holes(x, 3);
        due.is("the join takes the room of the pass", x.work(0), 1);
        due.worked("the join takes the room", x, 2, 0, 1, 2, 1, 2, 3);
        due.is("full of joins", x.picked(0, 3), 3);
        Charts.holes(x, 2);
        due.is("no room for the new piece", x.work(0), 1);
        due.worked("no room for the new piece", x, 4, 0, 1, 1, 1, 1, 1);
    }

    private static void manyPieces() {
        due.about("Promise 9", "3: PIECES, 4: thread of all STEPS OF WORK");
        BeadDesk x = Charts.all("000000000000");
        x.colour(0, 9, 1, 5);
        x.thread(3, 0);
        due.is("work(0)", x.work(0), 144);
        // the first row 1 2 | 2 | ..: 11 pieces; each later row a turn of 3 and eleven of 2: 12 pieces
        due.worked("a piece for nearly each bead", x, 0, NONE, NONE, 11 + 11 * 12, 23 + 11 * 25, 1, 23 + 11 * 25);
        x.thread(3, 1);
        due.is("woven", x.work(0), 144);
        due.worked("woven", x, 0, NONE, NONE, 143, 298, 1, 298 + 2 * 142);
        due.is("the last piece", x.woven(142, 0), 142);
        due.is("no more pieces", x.woven(143, 0), NONE);
    }

    private static void pieceOfABead() {
        due.about("Promise 10", "2: its PIECE (0, 1, ..), 3: how often its hole is passed");
        BeadDesk x = desk(4, 1, 9, "00000");
        due.is("work(0)", x.work(0), 5);
        due.picked("pieces from 0 on", x, 2, 0, 0, 1, 1, 2);
        due.picked("passes with those of weaving", x, 3, 2, 4, 2, 4, 1);
    }

    private static void passesOfAllHoles() {
        due.about("Promise 9", "6: passes of all holes");
        int[] weaves = {0, 1, 2};
        for (int weave : weaves) {
            BeadDesk x = desk(7, weave, 9, "0000", "0000");
            x.work(0);
            int sum = 0;
            for (int k = 0; k < x.count(6); k++) {
                sum += x.picked(k, 3);
            }
            due.is("the sum of the beads', weave " + weave, x.worked(6), sum);
            due.is("steps and weavings, weave " + weave, sum, x.worked(4) + 2 * weave * (x.worked(3) - 1));
        }
    }

    private static void firstPieceIsNotWoven() {
        due.about("Promise 15", "BEADS through which a PIECE is woven in (the first PIECE: none)");
        BeadDesk x = desk(4, 2, 9, "0000");
        due.is("work(0)", x.work(0), 4);
        for (int i = -1; i <= 6; i++) {
            due.is("woven(0, " + i + ")", x.woven(0, i), NONE);
        }
    }

    private static void ithOfThem() {
        due.about("Promise 15", "the i-th of them (as PICKED); NONE.");
        BeadDesk x = desk(5, 2, 9, "000000");
        due.is("work(0)", x.work(0), 6);
        // steps 1 2 2 | 2 2 | 2
        due.is("pieces", x.worked(3), 3);
        due.is("woven(1, 0)", x.woven(1, 0), 2);
        due.is("woven(1, 1)", x.woven(1, 1), 1);
        due.is("woven(2, 0)", x.woven(2, 0), 4);
        due.is("woven(2, 1)", x.woven(2, 1), 3);
        int[] badI = {-1, 2, 6, 7, MIN, MAX};
        for (int i : badI) {
            due.is("woven(1, " + i + ")", x.woven(1, i), NONE);
            due.is("woven(2, " + i + ")", x.woven(2, i), NONE);
        }
        int[] badPieces = {-1, 3, 144, 145, MIN, MAX};
        for (int piece : badPieces) {
            due.is("woven(" + piece + ", 0)", x.woven(piece, 0), NONE);
            due.is("woven(" + piece + ", 1)", x.woven(piece, 1), NONE);
        }
    }

    private static void wovenOfTheLatestWork() {
        due.about("Promise 15", "int woven(int piece, int i)");
        BeadDesk x = desk(5, 2, 9, "000000");
        due.is("ahead of any", x.woven(1, 0), NONE);
        x.work(0);
        x.thread(5, 1);
        due.is("the weave of the work", x.woven(1, 1), 1);
        x.work(0);
        due.is("the weave of the next work", x.woven(1, 1), NONE);
        x.thread(9, 1);
        x.work(0);
        due.is("fewer pieces", x.woven(2, 0), NONE);
        x.beads(0, 0, 6, 0666666);
        x.work(0);
        due.is("no piece", x.woven(1, 0), NONE);
    }
}
