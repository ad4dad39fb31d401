/** Promises 8 to 10 and 15: pieces, the join and the fault 4. */
public final class JoinTest {
    private static final int NONE = BeadDesk.NONE;
    private static final Due due = new Due("JoinTest");

    public static void main(String[] args) {
        joinsInARow();
        joinAheadOfAFullHole();
        joinThatCannotBe();
        joinThatCannotWeaveOff();
        weavingPassesFullHolesBy();
        weavingThroughSix();
        withoutWeaving();
        leftIsJustEnough();
        mostPieces();
        due.end();
    }

    /** Steps 1, 2, 2, 2, 2 of thread; pieces of 4 with one bead woven. */
    private static void joinsInARow() {
        BeadDesk x = Charts.desk("00000");
        Charts.holes(x, 9);
        x.thread(4, 1);
        due.is("work(0)", x.work(0), 5);
        due.picked("joins", x, 2, 0, 0, 1, 1, 2);
        due.picked("joins", x, 3, 2, 4, 2, 4, 1);
        due.worked("joins", x, 0, NONE, NONE, 3, 9, 2, 13);
        due.is("woven(0, 0)", x.woven(0, 0), NONE);
        due.is("woven(1, 0)", x.woven(1, 0), 1);
        due.is("woven(1, 1)", x.woven(1, 1), NONE);
        due.is("woven(2, 0)", x.woven(2, 0), 3);
        due.is("woven(3, 0)", x.woven(3, 0), NONE);
        due.is("woven(-1, 0)", x.woven(-1, 0), NONE);
        due.is("woven(1, -1)", x.woven(1, -1), NONE);
        for (int wrong : Charts.WRONG) {
            due.is("woven piece " + wrong, x.woven(wrong, 0), NONE);
            due.is("woven i " + wrong, x.woven(1, wrong), NONE);
            due.is("woven both " + wrong, x.woven(wrong, wrong), NONE);
        }
    }

    private static void joinAheadOfAFullHole() {
        BeadDesk x = Charts.desk("00000");
        x.thread(4, 1);
        due.is("work(0)", x.work(0), 2);
        due.worked("the join stays done", x, 2, 0, 2, 2, 3, 4, 5);
        due.picked("the join stays done", x, 3, 2, 3);
        due.picked("the join stays done", x, 2, 0, 0);
        due.is("woven(1, 0)", x.woven(1, 0), 1);
        due.is("pull(0)", x.pull(0), 2);
        due.is("pull(1)", x.pull(1), 1);
    }

    /** Off through 1 and 0, but then only 1 has room for the new piece. */
    private static void joinThatCannotBe() {
        BeadDesk x = Charts.desk("000");
        x.thread(3, 2);
        due.is("work(0)", x.work(0), 2);
        due.worked("nothing of it is done", x, 4, 0, 2, 1, 3, 0, 3);
        due.picked("nothing of it is done", x, 3, 2, 1);
        due.is("woven(1, 0)", x.woven(1, 0), NONE);
        Charts.holes(x, 4);
        due.is("room for both", x.work(0), 3);
        due.worked("room for both", x, 0, NONE, NONE, 2, 5, 1, 9);
        due.is("the last one first", x.woven(1, 0), 1);
        due.is("then the one before", x.woven(1, 1), 0);
        due.is("no third", x.woven(1, 2), NONE);
    }

    private static void joinThatCannotWeaveOff() {
        BeadDesk x = Charts.desk("000");
        Charts.holes(x, 9);
        x.thread(3, 3);
        due.is("two beads for three", x.work(0), 2);
        due.worked("two beads for three", x, 4, 0, 2, 1, 3, 0, 3);
        due.picked("two beads for three", x, 3, 2, 1);
    }

    /** Pieces of 7: at the join ahead of 4 the beads 3, 2, 1 and 0 have 1, 2, 2 and 2 passes, and 2 is full. */
    private static void weavingPassesFullHolesBy() {
        BeadDesk x = Charts.desk("02130");
        Charts.holes(x, 9);
        x.colour(1, 2, 1, 5);
        x.thread(7, 2);
        due.is("work(0)", x.work(0), 5);
        due.is("off 3 and 1, in 3 and 1", x.woven(1, 0), 3);
        due.is("the full one is passed by", x.woven(1, 1), 1);
        due.picked("passed by", x, 3, 2, 4, 2, 4, 1);
        x.colour(2, 3, 1, 5);
        due.is("work(0) again", x.work(0), 5);
        due.is("in 3", x.woven(1, 0), 3);
        due.is("full behind the weaving off", x.woven(1, 1), 0);
        due.picked("full behind the weaving off", x, 3, 3, 3, 2, 4, 1);
    }

    /** Steps of 1, 2, 2, 2, 2, 2 leave nothing of a piece of 11. */
    private static void weavingThroughSix() {
        BeadDesk x = Charts.desk("00000000");
        Charts.holes(x, 5);
        x.thread(11, 6);
        due.is("work(0)", x.work(0), 8);
        due.worked("six", x, 0, NONE, NONE, 2, 15, 7, 27);
        for (int i = 0; i < 6; i++) {
            due.is("woven(1, " + i + ")", x.woven(1, i), 5 - i);
        }
        due.is("woven(1, 6)", x.woven(1, 6), NONE);
        due.picked("six", x, 3, 4, 4, 4, 4, 4, 4, 2, 1);
        x.thread(11, 5);
        due.is("five", x.work(0), 8);
        due.picked("five", x, 3, 2, 4, 4, 4, 4, 4, 2, 1);
        due.is("woven(1, 5)", x.woven(1, 5), NONE);
    }

    private static void withoutWeaving() {
        BeadDesk x = Charts.desk("0000");
        x.colour(0, 2, 1, 5);
        x.thread(2, 0);
        due.is("work(0)", x.work(0), 4);
        due.worked("without weaving", x, 0, NONE, NONE, 4, 7, 0, 7);
        due.picked("without weaving", x, 2, 0, 1, 2, 3);
        due.is("woven(1, 0)", x.woven(1, 0), NONE);
        due.is("pull(0): nothing leads on", x.pull(0), 1);
    }

    private static void leftIsJustEnough() {
        BeadDesk x = Charts.desk("000");
        x.thread(5, 6);
        due.is("work(0)", x.work(0), 3);
        due.worked("just enough", x, 0, NONE, NONE, 1, 5, 0, 5);
        x.thread(4, 6);
        due.is("one less", x.work(0), 2);
        due.worked("one less", x, 4, 0, 2, 1, 3, 1, 3);
    }

    private static void mostPieces() {
        BeadDesk x = new BeadDesk();
        for (int row = 0; row < 12; row++) {
            x.beads(row, 0, 12, 0);
        }
        Charts.holes(x, 9);
        x.thread(3, 1);
        due.is("work(0)", x.work(0), 144);
        due.is("fault", x.worked(0), 0);
        due.is("passes are steps and weavings", x.worked(6), x.worked(4) + 2 * (x.worked(3) - 1));
        due.is("a piece for nearly each bead", x.worked(3), 143);
        due.is("the last piece", x.picked(143, 2), 142);
        due.is("the last weaving", x.woven(142, 0), 142);
    }
}
