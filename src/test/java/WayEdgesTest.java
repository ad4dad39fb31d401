/** One test for each sentence about the way of the thread that names an edge: Terms, promises 8 to 11. */
public final class WayEdgesTest {
    private static final int NONE = BeadDesk.NONE;
    private static final int MIN = Integer.MIN_VALUE;
    private static final int MAX = Integer.MAX_VALUE;
    private static final Due due = new Due("WayEdgesTest");

    public static void main(String[] args) {
        fromRow0AndRow11();
        rowsLeftOut();
        notOverAGap();
        onTheRowBeforeAlone();
        squaresInTheEndColumns();
        bricksAtTheFlatEnds();
        bricksAroundTheRing();
        asFarAsThereAreBeads();
        bothAreNotOne();
        theOtherWayRound();
        ringsGoOneWay();
        turnsOnlyInLaterRows();
        turnInARowOfOne();
        stepUp();
        veryFirstBead();
        closingTheRing();
        stopsAheadOfTheStep();
        fault1();
        fault3();
        fault2();
        faultsInTheirOrder();
        pickedFrom0();
        begins();
        otherBegins();
        nothingToWork();
        noFaultNoBead();
        leftWithoutAPiece();
        workedAheadOfAny();
        otherWorked();
        pickedWithoutIt();
        caughtOnHowMany();
        ordersOfNone();
        due.end();
    }

    private static BeadDesk wideHoles(String... rows) {
        BeadDesk x = Charts.desk(rows);
        Charts.holes(x, 9);
        return x;
    }

    private static BeadDesk bricks(String... rows) {
        BeadDesk x = wideHoles(rows);
        x.stitch(1);
        return x;
    }

    private static void fromRow0AndRow11() {
        due.about("Terms", "WORKED from ROW 0 up, or from ROW 11 down");
        BeadDesk x = Charts.all("0");
        due.is("work(0)", x.work(0), 12);
        due.picked("up", x, 0, 0, 1, 2, 3, 4, 5, 6, 7, 8, 9, 10, 11);
        due.is("work(2)", x.work(2), 12);
        due.picked("down", x, 0, 11, 10, 9, 8, 7, 6, 5, 4, 3, 2, 1, 0);
    }

    private static void rowsLeftOut() {
        due.about("Terms", "ROWS without BEADS are left out");
        BeadDesk x = wideHoles("", "", "", "", "", "00", "00");
        due.is("work(0)", x.work(0), 4);
        due.picked("up, the first row is 5", x, 0, 5, 5, 6, 6);
        due.picked("up, side 0 is that of row 5", x, 1, 0, 1, 1, 0);
        due.worked("up, no turn and no catch in row 5", x, 0, NONE, NONE, 1, 8, 992, 8);
        due.is("work(3)", x.work(3), 4);
        due.picked("down, the first row is 6", x, 0, 6, 6, 5, 5);
        due.picked("down, side 1 is that of row 6", x, 1, 1, 0, 0, 1);
        due.worked("down, no turn and no catch in row 6", x, 0, NONE, NONE, 1, 8, 992, 8);
    }

    private static void notOverAGap() {
        due.about("Terms", "a ROW is CAUGHT on the one next to it alone (r - 1 when worked up, r + 1 when down), "
            + "not over a gap");
        BeadDesk x = wideHoles("", "", "", "00", "", "00");
        due.is("up to the gap", x.work(0), 2);
        due.worked("up", x, 1, 5, 1, 1, 3, 997, 3);
        due.is("down to the gap", x.work(2), 2);
        due.worked("down", x, 1, 3, 1, 1, 3, 997, 3);
        x.stitch(1);
        due.is("bricks, up to the gap", x.work(0), 2);
        x.ring(3);
        due.is("in a ring, down to the gap", x.work(2), 2);
        x.beads(4, 0, 2, 0);
        due.is("without the gap", x.work(0), 6);
    }

    /** Row 2 has beads in both columns, row 0 in one. */
    private static void onTheRowBeforeAlone() {
        due.about("Terms", "r - 1 when worked up, r + 1 when down");
        BeadDesk x = wideHoles("0", "00", "00");
        due.is("up: (1, 1) is not caught on (2, 1)", x.work(0), 1);
        due.worked("up", x, 1, 1, 1);
        due.is("down: (1, 1) is", x.work(2), 5);
        due.picked("down", x, 4, 0, 0, 1, 1, 1);
        due.is("down: on (2, 1) hangs (1, 1)", x.hang(1), 1);
        due.is("down: on (1, 0) hangs (0, 0)", x.hang(3), 1);
    }

    private static void squaresInTheEndColumns() {
        due.about("Terms", "SQUARE: that in COLUMN k of the other ROW");
        BeadDesk x = wideHoles("0..........0", "0..........0");
        due.is("work(0)", x.work(0), 4);
        due.picked("columns 0 and 11", x, 4, 0, 0, 1, 1);
        // steps: 0 | 1 0 | 1 2 1 | 3 0
        due.picked("columns 0 and 11", x, 3, 3, 3, 1, 1);
        x.beads(1, 0, 2, Charts.code(6, 0));
        due.is("(1, 1) is not caught on (0, 0)", x.work(0), 3);
        BeadDesk y = wideHoles("...........0", "0");
        y.ring(12);
        due.is("nor around the ring: (1, 0) on (0, 11)", y.work(0), 1);
    }

    /** A column beside the chart is no cell: not the last one of the row below, not the first one of the row above. */
    private static void bricksAtTheFlatEnds() {
        due.about("Terms", "BRICK: those in COLUMNS k - 1 + r % 2 and k + r % 2 of it");
        BeadDesk x = bricks("000000000000", "000000000000", "000000000000");
        due.is("work(0)", x.work(0), 36);
        due.is("row 1, column 11", x.picked(x.order(1, 11), 4), 1);
        due.is("row 1, column 0", x.picked(x.order(1, 0), 4), 2);
        due.is("row 2, column 0", x.picked(x.order(2, 0), 4), 1);
        due.is("row 2, column 11", x.picked(x.order(2, 11), 4), 2);
        x.work(2);
        due.is("down: row 1, column 11", x.picked(x.order(1, 11), 4), 1);
        due.is("down: row 0, column 0", x.picked(x.order(0, 0), 4), 1);
        due.is("down: row 0, column 11", x.picked(x.order(0, 11), 4), 2);
        BeadDesk left = bricks("...........0", "...........0", "0");
        due.is("(2, 0) is not caught on (0, 11)", left.work(0), 2);
        due.worked("left end", left, 1, 2, 0);
        BeadDesk right = bricks("0", "0..........0");
        due.is("(1, 11) is not caught on (1, 0)", right.work(1), 2);
        due.worked("right end", right, 1, 1, 11);
        BeadDesk down = bricks("", "...........0", "0", "0");
        due.is("(1, 11) is not caught on (3, 0)", down.work(2), 2);
        due.worked("right end, down", down, 1, 1, 11);
    }

    private static void bricksAroundTheRing() {
        due.about("Terms", "in a RING of W the rest by W");
        for (int w = 3; w <= 12; w++) {
            String last = ".".repeat(w - 1) + "0";
            aroundTheRing("even row, k 0, W " + w, w, bricks("", last, "0"), 0, 2, 0);
            aroundTheRing("odd row, k W - 1, W " + w, w, bricks("0", last), 0, 1, w - 1);
            aroundTheRing("down, even row, k 0, W " + w, w, bricks("0", last), 2, 0, 0);
            aroundTheRing("down, odd row, k W - 1, W " + w, w, bricks("", last, "0"), 2, 1, w - 1);
        }
        BeadDesk x = bricks("", ".0", "0");
        x.ring(3);
        due.is("not on the other neighbour: (2, 0) on (1, 1)", x.work(0), 1);
    }

    private static void aroundTheRing(String what, int w, BeadDesk x, int begin, int row, int column) {
        due.is(what + ": flat", x.work(begin), 1);
        due.worked(what + ": flat", x, 1, row, column);
        due.is(what + ": ring", x.ring(w), true);
        due.is(what + ": in the ring", x.work(begin), 2);
        due.is(what + ": caught on one", x.picked(1, 4), 1);
        due.is(what + ": and that hangs", x.hang(0), 1);
    }

    private static void asFarAsThereAreBeads() {
        due.about("Terms", "as far as there are BEADS");
        String[] before = {"00", "0", ".0", "..0"};
        int[] caught = {2, 1, 1, NONE};
        for (int i = 0; i < before.length; i++) {
            BeadDesk x = bricks(before[i], "0");
            x.work(0);
            due.is("(1, 0) behind " + before[i], x.picked(x.count(0) - 1, 4), caught[i]);
            due.is("fault behind " + before[i], x.worked(0), caught[i] == NONE ? 1 : 0);
        }
    }

    private static void bothAreNotOne() {
        due.about("Terms", "(in a RING of W both can't be one)");
        BeadDesk x = bricks("000", "000", "000");
        x.ring(3);
        for (int begin = 0; begin < 4; begin++) {
            due.is("work(" + begin + ")", x.work(begin), 9);
            due.picked("the least ring", x, 4, 0, 0, 0, 2, 2, 2, 2, 2, 2);
            // 9 beads, 2 neighbours, the end of the first ring, 2 steps up, 6 * 2 catches
            due.is("passes", x.worked(6), 9 + 2 + 1 + 2 + 12);
        }
    }

    private static void theOtherWayRound() {
        due.about("Terms", "the first ROW is worked by rising COLUMNS (SIDE 0) or falling ones (SIDE 1), "
            + "then each ROW the other way round");
        BeadDesk x = bricks("000", ".0", ".00");
        due.is("work(0)", x.work(0), 6);
        due.picked("side 0, behind a row of one", x, 1, 0, 1, 2, 1, 1, 2);
        due.is("work(1)", x.work(1), 6);
        due.picked("side 1, behind a row of one", x, 1, 2, 1, 0, 1, 2, 1);
        BeadDesk y = wideHoles("0..........0", "0..........0");
        y.work(0);
        due.picked("side 0, the end columns", y, 1, 0, 11, 11, 0);
        y.work(1);
        due.picked("side 1, the end columns", y, 1, 11, 0, 0, 11);
    }

    private static void ringsGoOneWay() {
        due.about("Terms", "in a RING all ROWS by rising COLUMNS, or all by falling ones");
        BeadDesk x = wideHoles("000", "000", "000");
        x.ring(3);
        for (int begin = 0; begin < 4; begin++) {
            due.is("work(" + begin + ")", x.work(begin), 9);
            if (begin % 2 == 0) {
                due.picked("rising", x, 1, 0, 1, 2, 0, 1, 2, 0, 1, 2);
            } else {
                due.picked("falling", x, 1, 2, 1, 0, 2, 1, 0, 2, 1, 0);
            }
        }
    }

    private static void turnsOnlyInLaterRows() {
        due.about("II", "if it is the first of a ROW that is not the first one: the TURN: "
            + "FLAT: the last BEAD picked up");
        BeadDesk x = wideHoles("00", "00", "00");
        due.is("work(0)", x.work(0), 6);
        // steps: 0 | 1 0 | 1 2 1 | 3 0 | 3 4 3 | 5 2
        due.picked("two turns", x, 3, 3, 3, 2, 3, 1, 1);
        due.worked("two turns", x, 0, NONE, NONE, 1, 13, 987, 13);
        BeadDesk y = wideHoles("000", "0");
        due.is("work(0) again", y.work(0), 4);
        // steps: 0 | 1 0 | 2 1 | 2 3 0
        due.picked("the last picked up is not the one caught on", y, 3, 3, 2, 2, 1);
    }

    private static void turnInARowOfOne() {
        due.about("II", "FLAT: the last BEAD picked up; RING: the first BEAD of the ROW before (the step up)");
        BeadDesk x = wideHoles("0", "0", "0");
        due.is("flat", x.work(0), 3);
        // steps: 0 | 0 1 0 | 1 2 1
        due.picked("flat", x, 3, 3, 3, 1);
        x.ring(3);
        due.is("ring", x.work(0), 3);
        due.picked("ring", x, 3, 3, 3, 1);
    }

    private static void stepUp() {
        due.about("II", "RING: the first BEAD of the ROW before (the step up)");
        BeadDesk x = wideHoles("000", "000", ".0");
        x.ring(3);
        due.is("work(0)", x.work(0), 7);
        // steps: 0 | 1 0 | 2 1 0 | 0 3 0 | 4 1 | 5 2 | 3 6 4
        due.picked("rising", x, 3, 5, 3, 2, 2, 2, 1, 1);
        due.is("work(1)", x.work(1), 7);
        due.picked("falling", x, 3, 5, 3, 2, 2, 2, 1, 1);
        due.is("falling: the first of row 1", x.picked(3, 1), 2);
    }

    private static void veryFirstBead() {
        due.about("II", "in the first ROW: the BEAD picked up before it (none for the very first)");
        BeadDesk x = Charts.desk("0");
        due.is("work(0)", x.work(0), 1);
        due.worked("one", x, 0, NONE, NONE, 1, 1, 999, 1);
        due.is("its passes", x.picked(0, 3), 1);
        x.beads(0, 11, 1, 0);
        due.is("work(0) with a second", x.work(0), 2);
        due.worked("two", x, 0, NONE, NONE, 1, 3, 997, 3);
        due.picked("two", x, 3, 2, 1);
    }

    private static void closingTheRing() {
        due.about("II", "in a RING the last BEAD of the first ROW passes the first BEAD of it, too, at the end "
            + "(if there are three and more in it)");
        for (int n = 1; n <= 12; n++) {
            BeadDesk x = wideHoles("0".repeat(n));
            x.work(1);
            due.is("flat, " + n, x.worked(6), 2 * n - 1);
            x.ring(12);
            for (int begin = 0; begin < 4; begin++) {
                due.is("ring of " + n, x.work(begin), n);
                due.is("passes, ring of " + n, x.worked(6), 2 * n - 1 + (n >= 3 ? 1 : 0));
                due.is("thread, ring of " + n, x.worked(4), 2 * n - 1 + (n >= 3 ? 1 : 0));
                due.is("first of a ring of " + n, x.picked(0, 3), n >= 3 ? 3 : n);
                due.is("last of a ring of " + n, x.picked(n - 1, 3), 1);
            }
        }
        BeadDesk y = wideHoles("0.0.0", "0.0.0");
        y.ring(5);
        due.is("three with gaps, and a later row", y.work(0), 6);
        // steps: 0 | 1 0 | 2 1 0 | 0 3 0 | 4 1 | 5 2
        due.picked("only the first row is closed", y, 3, 5, 3, 2, 1, 1, 1);
        BeadDesk z = Charts.desk("000");
        z.ring(3);
        z.colour(0, 2, 1, 5);
        due.is("the pass at the end needs room", z.work(0), 2);
        due.worked("no room", z, 2, 0, 2);
    }

    /** What is told is the same as without the bead of the fault. */
    private static void stopsAheadOfTheStep() {
        due.about("II", "FAULTS, each stops the work ahead of that STEP");
        sameWithoutTheLast(1, Charts.desk("00", "..0"), Charts.desk("00"));
        sameWithoutTheLast(2, Charts.desk("001", "..0"), Charts.desk("001"));
        sameWithoutTheLast(3, Charts.desk("002"), Charts.desk("00"));
        sameWithoutTheLast(4, Charts.desk("030"), Charts.desk("03"));
        BeadDesk x = Charts.desk("00", "0.0", "000");
        due.is("and all behind it", x.work(0), 2);
        due.is("order(1, 0)", x.order(1, 0), NONE);
        due.is("order(2, 2)", x.order(2, 2), NONE);
    }

    private static void sameWithoutTheLast(int fault, BeadDesk with, BeadDesk without) {
        BeadDesk[] both = {with, without};
        for (BeadDesk x : both) {
            x.colour(1, 2, 1, 5);
            x.colour(2, 3, 20, 5);
            x.colour(3, 3, 4, 5);
            x.thread(fault == 4 ? 7 : 20, 2);
            x.work(0);
        }
        due.is("fault " + fault, with.worked(0), fault);
        due.is("fault " + fault + ": none without the bead", without.worked(0), 0);
        due.is("fault " + fault + ": picked", with.count(6), with.count(0) - 1);
        String[] told = {Charts.told(with), Charts.told(without)};
        for (int i = 0; i < 2; i++) {
            told[i] = told[i].split(" ", 4)[3];
        }
        due.is("fault " + fault + ": all but the fault and its bead", told[0], told[1]);
        due.is("fault " + fault + ": order of the bead", with.order(with.worked(1), with.worked(2)), NONE);
    }

    private static void fault1() {
        due.about("II", "1 a BEAD in a ROW that is not the first and CAUGHT on nothing");
        String[][] rows = {{"0", ".0"}, {"0.0", "000"}, {".00", "000"}};
        int[] picked = {1, 3, 4};
        int[] column = {1, 1, 0};
        for (int i = 0; i < rows.length; i++) {
            BeadDesk x = wideHoles(rows[i]);
            due.is("the first, the middle, the last one: " + i, x.work(0), picked[i]);
            due.worked("the first, the middle, the last one: " + i, x, 1, 1, column[i]);
        }
        for (int begin = 0; begin < 4; begin++) {
            BeadDesk x = bricks("", "", "0.0.0");
            due.is("not in the first row", x.work(begin), 3);
            due.is("no fault there", x.worked(0), 0);
        }
    }

    /** Each pass needs 5 of thread; nothing must be woven. */
    private static void fault3() {
        due.about("II", "3 the passes of the STEP together need more thread than LENGTH");
        lengthThatIsJustEnough("the first bead", Charts.desk("0"), 0, 5, 0);
        lengthThatIsJustEnough("the second bead", Charts.desk("00"), 0, 10, 1);
        lengthThatIsJustEnough("with a turn", Charts.desk("00", ".0"), 0, 15, 2);
        BeadDesk bricks = Charts.desk("00", "0");
        bricks.stitch(1);
        lengthThatIsJustEnough("with a turn and two catches", bricks, 1, 20, 2);
        BeadDesk ring = Charts.desk("000");
        ring.ring(3);
        lengthThatIsJustEnough("at the end of the first ring", ring, 0, 15, 2);
    }

    private static void lengthThatIsJustEnough(String what, BeadDesk x, int begin, int need, int before) {
        x.colour(0, 9, 5, 5);
        x.thread(need, 0);
        due.is(what + ": just enough", x.work(begin), before + 1);
        due.is(what + ": no fault", x.worked(0), 0);
        x.thread(need - 1, 0);
        due.is(what + ": one less", x.work(begin), before);
        due.is(what + ": fault", x.worked(0), 3);
    }

    private static void fault2() {
        due.about("II", "2 a pass (of those of the STEP one behind the other) would be one more than the HOLE's");
        BeadDesk x = Charts.desk("01", ".0");
        x.colour(1, 3, 1, 5);
        due.is("the turn and the catch just fit", x.work(0), 3);
        due.is("its passes", x.picked(1, 3), 3);
        x.colour(1, 2, 1, 5);
        due.is("one of both would fit", x.work(0), 2);
        due.worked("one of both", x, 2, 1, 1, 1, 3, 997, 3);
        BeadDesk y = Charts.desk("10");
        y.colour(1, 1, 1, 5);
        due.is("a hole of one has its own bead's pass alone", y.work(0), 1);
        due.worked("a hole of one", y, 2, 0, 1);
        due.is("and as the last one it is enough", y.work(1), 2);
        BeadDesk turn = Charts.desk("01", "0");
        turn.colour(1, 1, 1, 5);
        due.is("the first pass of the step: the turn alone", turn.work(0), 2);
        due.worked("the first pass of the step", turn, 2, 1, 0, 1, 3, 997, 3);
        BeadDesk z = Charts.desk("100");
        z.ring(3);
        z.colour(1, 2, 1, 5);
        due.is("the last pass of the step", z.work(0), 2);
        due.worked("the last pass of the step", z, 2, 0, 2);
    }

    private static void faultsInTheirOrder() {
        due.about("II", "asked in this order: 1");
        due.is("1 ahead of 3", faultOf(20, 0, 9, "0", ".2"), 1);
        due.is("3 where it is caught", faultOf(20, 0, 9, "00", ".2"), 3);
        due.is("1 ahead of 4", faultOf(3, 2, 3, "00", "..0"), 1);
        due.is("4 where it is caught", faultOf(3, 2, 3, "00", ".0"), 4);
        due.is("1 ahead of 2", faultOf(20, 0, 9, "01", "..0"), 1);
        due.is("2 where it is caught", faultOf(20, 0, 9, "01", ".0"), 2);
        due.is("3 ahead of 4", faultOf(3, 6, 9, "002"), 3);
        due.is("4 where it is short enough", faultOf(3, 6, 9, "000"), 4);
        due.is("3 ahead of 2", faultOf(20, 0, 9, "012"), 3);
        due.is("2 where it is short enough", faultOf(20, 0, 9, "010"), 2);
        due.is("4 ahead of 2", faultOf(3, 6, 9, "010"), 4);
        due.is("2 where nothing is woven", faultOf(3, 0, 9, "010"), 2);
    }

    /** Colour 0 of a hole that is told, colour 1 of a hole of one, colour 2 of a step of 20. */
    private static int faultOf(int length, int weave, int hole, String... rows) {
        BeadDesk x = Charts.desk(rows);
        x.thread(length, weave);
        x.colour(0, hole, 1, 5);
        x.colour(1, 1, 1, 5);
        x.colour(2, 9, 20, 5);
        x.work(0);
        return x.worked(0);
    }

    private static void pickedFrom0() {
        due.about("II", "PICKED: BEADS picked up, 0, 1, .. in that order.");
        BeadDesk x = wideHoles("012", "345");
        x.work(0);
        due.picked("colours", x, 5, 0, 1, 2, 5, 4, 3);
        due.is("the first", x.order(0, 0), 0);
        due.is("the last", x.order(1, 0), 5);
    }

    private static void begins() {
        due.about("III", "BEGINS 0 to 3: up with SIDE 0, up with SIDE 1, down with SIDE 0, down with SIDE 1.");
        int[][] first = {{0, 0}, {0, 1}, {1, 0}, {1, 1}};
        BeadDesk x = wideHoles("00", "00");
        for (int begin = 0; begin < 4; begin++) {
            due.is("work(" + begin + ")", x.work(begin), 4);
            due.is("its first bead", x.order(first[begin][0], first[begin][1]), 0);
            due.is("the last one below or above it", x.order(1 - first[begin][0], first[begin][1]), 3);
        }
    }

    private static void otherBegins() {
        due.about("Promise 8", "how many BEADS are PICKED; NONE, and nothing happens, for others");
        int[] bad = {-1, 4, MIN, MAX};
        BeadDesk x = wideHoles("00", "0");
        for (int begin : bad) {
            due.is("work(" + begin + ") ahead of any", x.work(begin), NONE);
            due.is("nothing is worked", x.worked(0), NONE);
        }
        x.work(1);
        String told = Charts.told(x);
        x.beads(0, 0, 1, 5);
        for (int begin : bad) {
            due.is("work(" + begin + ")", x.work(begin), NONE);
            due.is("the work that was", Charts.told(x), told);
        }
    }

    private static void nothingToWork() {
        due.about("Promise 8", "All is WORKED by a BEGIN: how many BEADS are PICKED");
        BeadDesk x = wideHoles("0", "0");
        due.is("two", x.work(0), 2);
        x.beads(0, 0, 1, 6);
        x.beads(1, 0, 1, 6);
        for (int begin = 0; begin < 4; begin++) {
            due.is("nothing, work(" + begin + ")", x.work(begin), 0);
            due.worked("nothing", x, 0, NONE, NONE, 0, 0, 0, 0);
            due.is("nothing picked", x.picked(0, 0), NONE);
            due.is("no order", x.order(0, 0), NONE);
        }
        BeadDesk y = Charts.all("000000000000");
        Charts.holes(y, 9);
        for (int begin = 0; begin < 4; begin++) {
            due.is("all, work(" + begin + ")", y.work(begin), 144);
            due.is("no fault", y.worked(0), 0);
            due.is("the last of all", y.picked(143, 0), begin < 2 ? 11 : 0);
        }
    }

    private static void noFaultNoBead() {
        due.about("Promise 9", "0: the FAULT (0: none), 1, 2: ROW and COLUMN of the BEAD ahead of which it stopped "
            + "(NONE)");
        BeadDesk x = Charts.desk("0", ".0");
        x.work(0);
        due.worked("with a fault", x, 1, 1, 1);
        x.beads(0, 1, 1, 0);
        due.worked("it stays told", x, 1, 1, 1);
        x.work(0);
        due.worked("without a fault", x, 0, NONE, NONE);
        BeadDesk y = Charts.desk("0");
        y.colour(0, 3, 2, 5);
        y.thread(1, 0);
        y.work(0);
        due.worked("at cell (0, 0)", y, 3, 0, 0);
        BeadDesk z = new BeadDesk();
        z.beads(11, 11, 1, 0);
        z.colour(0, 3, 2, 5);
        z.thread(1, 0);
        z.work(0);
        due.worked("at cell (11, 11)", z, 3, 11, 11);
    }

    private static void leftWithoutAPiece() {
        due.about("Promise 9", "5: what the last PIECE has left (0 without one)");
        BeadDesk x = new BeadDesk();
        x.work(0);
        due.is("an empty chart", x.worked(5), 0);
        x.beads(0, 0, 1, 0);
        x.work(0);
        due.is("one bead", x.worked(5), 999);
        x.thread(1, 2);
        x.work(0);
        due.is("one bead, nothing left", x.worked(5), 0);
        x.colour(0, 3, 2, 5);
        x.work(0);
        due.worked("no bead and so no piece", x, 3, 0, 0, 0, 0, 0, 0);
    }

    private static void workedAheadOfAny() {
        due.about("Promise 9", "NONE ahead of any");
        BeadDesk x = Charts.desk("0", "", "0");
        x.work(4);
        x.work(-1);
        due.is("best() of a chart with a gap", x.best(), NONE);
        for (int what = 0; what <= 6; what++) {
            due.is("worked(" + what + ")", x.worked(what), NONE);
        }
    }

    private static void otherWorked() {
        due.about("Promise 9", "or for another what");
        BeadDesk x = Charts.desk("0");
        x.work(0);
        int[] bad = {-1, 7, MIN, MAX};
        for (int what : bad) {
            due.is("worked(" + what + ")", x.worked(what), NONE);
        }
    }

    private static void pickedWithoutIt() {
        due.about("Promise 10", "NONE without it, or for another what");
        BeadDesk x = Charts.desk("0000");
        x.work(0);
        x.beads(0, 2, 2, Charts.code(6, 6));
        x.work(0);
        int[] badK = {-1, 2, 3, 144, MIN, MAX};
        int[] badWhat = {-1, 6, MIN, MAX};
        for (int k : badK) {
            for (int what = 0; what <= 5; what++) {
                due.is("picked(" + k + ", " + what + ")", x.picked(k, what), NONE);
            }
        }
        for (int what : badWhat) {
            due.is("picked(0, " + what + ")", x.picked(0, what), NONE);
            due.is("picked(1, " + what + ")", x.picked(1, what), NONE);
        }
        BeadDesk y = Charts.desk("0", ".0");
        y.work(0);
        due.is("the bead of the fault is not picked", y.picked(1, 0), NONE);
    }

    private static void caughtOnHowMany() {
        due.about("Promise 10", "4: on how many it is CAUGHT");
        BeadDesk x = bricks("00", "00");
        x.work(0);
        due.picked("none in the first row, then one, then two", x, 4, 0, 0, 1, 2);
    }

    private static void ordersOfNone() {
        due.about("Promise 11", "As the how manieth the BEAD of a cell was PICKED; NONE.");
        BeadDesk x = Charts.desk("00", "0.0");
        due.is("ahead of any", x.order(0, 0), NONE);
        x.work(0);
        due.is("the first", x.order(0, 0), 0);
        due.is("the second", x.order(0, 1), 1);
        due.is("no bead there", x.order(0, 2), NONE);
        due.is("the bead of the fault", x.order(1, 2), NONE);
        due.is("one behind it", x.order(1, 0), NONE);
        x.beads(5, 5, 1, 0);
        due.is("one that came later", x.order(5, 5), NONE);
        x.beads(0, 0, 3, Charts.code(6, 0, 0));
        x.work(0);
        due.is("one of an earlier work alone", x.order(0, 0), NONE);
        BeadDesk y = Charts.all("000000000000");
        Charts.holes(y, 9);
        y.work(0);
        due.is("(11, 0)", y.order(11, 0), 143);
        int[] bad = {-1, 12, MIN, MAX};
        for (int b : bad) {
            due.is("order(" + b + ", 0)", y.order(b, 0), NONE);
            due.is("order(0, " + b + ")", y.order(0, b), NONE);
            due.is("order(" + b + ", " + b + ")", y.order(b, b), NONE);
        }
        due.is("order(1, -1)", y.order(1, -1), NONE);
        due.is("order(10, 12)", y.order(10, 12), NONE);
        due.is("order(-1, 12)", y.order(-1, 12), NONE);
        due.is("order(12, -1)", y.order(12, -1), NONE);
    }
}
