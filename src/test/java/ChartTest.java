/** Promises 1 to 7, 17 and 18: the chart and what is set about it. */
public final class ChartTest {
    private static final int NONE = BeadDesk.NONE;
    private static final Due due = new Due("ChartTest");

    public static void main(String[] args) {
        newObject();
        beadsArePut();
        beadsAreRefused();
        beadsInARing();
        stitchTells();
        ringTakesAndRefuses();
        colourTakesAndRefuses();
        threadTakesAndRefuses();
        cellLooksEverywhere();
        boughtRoundsUp();
        countRefuses();
        due.end();
    }

    private static void newObject() {
        BeadDesk x = new BeadDesk();
        due.is("NONE", BeadDesk.NONE, -1);
        int[] want = {0, 0, 0, 0, 1000, 2, 0};
        for (int what = 0; what < want.length; what++) {
            due.is("new: count(" + what + ")", x.count(what), want[what]);
        }
        for (int c = 0; c < 6; c++) {
            due.is("new: beads of a colour", x.count(10 + c), 0);
            due.is("new: hole", x.count(20 + c), 3);
            due.is("new: bought", x.bought(c, 1), 0);
        }
        for (int row = 0; row < 12; row++) {
            for (int column = 0; column < 12; column++) {
                due.is("new: cell", x.cell(row, column), NONE);
                due.is("new: order", x.order(row, column), NONE);
            }
        }
        for (int what = -1; what <= 7; what++) {
            due.is("new: worked(" + what + ")", x.worked(what), NONE);
            due.is("new: picked(0, " + what + ")", x.picked(0, what), NONE);
        }
        due.is("new: hang(0)", x.hang(0), NONE);
        due.is("new: pull(0)", x.pull(0), NONE);
        due.is("new: pulled(0, 0)", x.pulled(0, 0), NONE);
        due.is("new: woven(0, 0)", x.woven(0, 0), NONE);
        due.is("new: woven(1, 0)", x.woven(1, 0), NONE);
        due.is("new: the step is 1", firstStep(), 1);
        due.is("new: the weight is light", firstWeight(), 1);
    }

    private static int firstStep() {
        BeadDesk x = Charts.desk("0");
        x.work(0);
        return x.worked(4);
    }

    /** A full chart shows no more of it than that 144 beads stay below a gram: how many packs more 7 needs. */
    private static int firstWeight() {
        BeadDesk x = full(3);
        int first = x.bought(3, 1);
        x.colour(3, 3, 1, 7);
        return x.bought(3, 1) - first;
    }

    private static BeadDesk full(int c) {
        BeadDesk x = new BeadDesk();
        for (int row = 0; row < 12; row++) {
            x.beads(row, 0, 12, Charts.code(c, c, c, c, c, c, c, c, c, c, c, c));
        }
        return x;
    }

    private static void beadsArePut() {
        BeadDesk x = new BeadDesk();
        due.is("beads 0 to 5", x.beads(2, 3, 6, Charts.code(0, 1, 2, 3, 4, 5)), true);
        for (int c = 0; c < 6; c++) {
            due.is("cell of colour " + c, x.cell(2, 3 + c), c);
        }
        due.is("cell before", x.cell(2, 2), NONE);
        due.is("cell behind", x.cell(2, 9), NONE);
        due.is("6 none, 7 as it was", x.beads(2, 2, 4, Charts.code(7, 6, 7, 5)), true);
        due.is("7 on none", x.cell(2, 2), NONE);
        due.is("6 takes away", x.cell(2, 3), NONE);
        due.is("7 leaves", x.cell(2, 4), 1);
        due.is("5 over 2", x.cell(2, 5), 5);
        due.is("bits behind the n-th are not read", x.beads(2, 0, 1, -1L << 3), true);
        due.is("the first bead's bits", x.cell(2, 0), 0);
        due.is("nothing behind it", x.cell(2, 1), NONE);
        due.is("a whole row", x.beads(11, 0, 12, Charts.code(0, 1, 2, 3, 4, 5, 5, 4, 3, 2, 1, 0)), true);
        due.is("its last", x.cell(11, 11), 0);
        due.is("its last but one", x.cell(11, 10), 1);
        due.is("the last cell alone", x.beads(11, 11, 1, 4), true);
        due.is("last cell", x.cell(11, 11), 4);
        due.is("all sevens", x.beads(0, 0, 12, -1L), true);
        due.is("count(0)", x.count(0), 1 + 5 + 12);
        due.is("count(1)", x.count(1), 2);
        due.is("count(15)", x.count(15), 2 + 2);
        due.is("count(14)", x.count(14), 1 + 2 + 1);
    }

    private static void beadsAreRefused() {
        BeadDesk x = new BeadDesk();
        long reds = Charts.code(1, 1, 1, 1, 1, 1, 1, 1, 1, 1, 1, 1);
        due.is("row -1", x.beads(-1, 0, 1, reds), false);
        due.is("row 12", x.beads(12, 0, 1, reds), false);
        due.is("column -1", x.beads(0, -1, 1, reds), false);
        due.is("column -1 with 2", x.beads(1, -1, 2, reds), false);
        due.is("column 12", x.beads(0, 12, 1, reds), false);
        due.is("n 0", x.beads(0, 0, 0, reds), false);
        due.is("n -1", x.beads(0, 5, -1, reds), false);
        due.is("n 13", x.beads(0, 0, 13, reds), false);
        due.is("beyond column 11", x.beads(0, 1, 12, reds), false);
        due.is("beyond column 11 with no bead there", x.beads(0, 11, 2, Charts.code(1, 6)), false);
        for (int wrong : Charts.WRONG) {
            due.is("row " + wrong, x.beads(wrong, 0, 1, reds), false);
            due.is("column " + wrong, x.beads(0, wrong, 1, reds), false);
            due.is("n " + wrong, x.beads(0, 0, wrong, reds), false);
            due.is("column and n " + wrong, x.beads(0, wrong, wrong, reds), false);
            due.is("column 11 and n " + wrong, x.beads(0, 11, wrong, reds), false);
        }
        due.is("nothing happened", x.count(0), 0);
    }

    private static void beadsInARing() {
        BeadDesk x = new BeadDesk();
        due.is("ring(5)", x.ring(5), true);
        due.is("up to W", x.beads(0, 0, 5, 0), true);
        due.is("beyond W", x.beads(1, 0, 6, 0), false);
        due.is("from W on", x.beads(1, 5, 1, 0), false);
        due.is("beyond W without beads", x.beads(1, 4, 2, Charts.code(1, 6)), false);
        due.is("nothing happened", x.count(0), 5);
        due.is("flat again", x.ring(0), true);
        due.is("beyond what was W", x.beads(1, 4, 2, 0), true);
    }

    private static void stitchTells() {
        BeadDesk x = new BeadDesk();
        due.is("stitch(1)", x.stitch(1), 0);
        due.is("stitch(1) again", x.stitch(1), 1);
        due.is("count(2)", x.count(2), 1);
        due.is("stitch(2)", x.stitch(2), NONE);
        due.is("stitch(-1)", x.stitch(-1), NONE);
        for (int wrong : Charts.WRONG) {
            due.is("stitch(" + wrong + ")", x.stitch(wrong), NONE);
        }
        due.is("stitch(0)", x.stitch(0), 1);
        due.is("count(2) at the end", x.count(2), 0);
    }

    private static void ringTakesAndRefuses() {
        BeadDesk x = new BeadDesk();
        for (int w = -2; w <= 14; w++) {
            boolean good = w == 0 || w >= 3 && w <= 12;
            due.is("ring(" + w + ")", x.ring(w), good);
            due.is("W after ring(" + w + ")", x.count(3), good ? w : w < 0 ? 0 : w < 3 ? 0 : 12);
        }
        for (int wrong : Charts.WRONG) {
            due.is("ring(" + wrong + ")", x.ring(wrong), false);
        }
        x.ring(0);
        x.beads(11, 6, 1, 2);
        due.is("a bead in column 6: ring(6)", x.ring(6), false);
        due.is("W stays", x.count(3), 0);
        due.is("ring(7)", x.ring(7), true);
        due.is("ring(3)", x.ring(3), false);
        due.is("W stays 7", x.count(3), 7);
        x.beads(11, 6, 1, 6);
        due.is("the bead taken away: ring(3)", x.ring(3), true);
    }

    private static void colourTakesAndRefuses() {
        BeadDesk x = Charts.desk("1");
        int[][] good = {{1, 1, 1, 1}, {1, 9, 20, 100}, {0, 5, 5, 5}, {5, 9, 9, 9}, {1, 4, 7, 50}};
        for (int[] g : good) {
            due.is("colour good", x.colour(g[0], g[1], g[2], g[3]), true);
            due.is("its hole", x.count(20 + g[0]), g[1]);
        }
        int[][] bad = {{-1, 1, 1, 1}, {6, 1, 1, 1}, {1, 0, 1, 1}, {1, 10, 1, 1}, {1, 1, 0, 1}, {1, 1, 21, 1},
            {1, 1, 1, 0}, {1, 1, 1, 101}, {1, -1, 1, 1}, {1, 1, -1, 1}, {1, 1, 1, -1}};
        for (int[] b : bad) {
            due.is("colour bad", x.colour(b[0], b[1], b[2], b[3]), false);
        }
        for (int wrong : Charts.WRONG) {
            due.is("c " + wrong, x.colour(wrong, 1, 1, 1), false);
            due.is("hole " + wrong, x.colour(1, wrong, 1, 1), false);
            due.is("step " + wrong, x.colour(1, 1, wrong, 1), false);
            due.is("weight " + wrong, x.colour(1, 1, 1, wrong), false);
        }
        due.is("hole stays", x.count(21), 4);
        x.work(0);
        due.is("step stays", x.worked(4), 7);
        x.beads(0, 0, 12, Charts.code(1, 1, 1, 1, 1, 1, 1, 1, 1, 1, 1, 1));
        x.beads(1, 0, 9, Charts.code(1, 1, 1, 1, 1, 1, 1, 1, 1));
        due.is("weight stays: 21 of 50", x.bought(1, 1), 2);
        due.is("other holes stay", x.count(22), 3);
    }

    private static void threadTakesAndRefuses() {
        BeadDesk x = new BeadDesk();
        due.is("thread(1, 0)", x.thread(1, 0), true);
        due.is("LENGTH", x.count(4), 1);
        due.is("WEAVE", x.count(5), 0);
        due.is("thread(9999, 6)", x.thread(9999, 6), true);
        due.is("thread(0, 2)", x.thread(0, 2), false);
        due.is("thread(10000, 2)", x.thread(10000, 2), false);
        due.is("thread(5, -1)", x.thread(5, -1), false);
        due.is("thread(5, 7)", x.thread(5, 7), false);
        due.is("thread(-1, 3)", x.thread(-1, 3), false);
        for (int wrong : Charts.WRONG) {
            due.is("weave " + wrong, x.thread(5, wrong), false);
            if (wrong < 1 || wrong > 9999) {
                due.is("length " + wrong, x.thread(wrong, 3), false);
            }
        }
        due.is("LENGTH stays", x.count(4), 9999);
        due.is("WEAVE stays", x.count(5), 6);
    }

    private static void cellLooksEverywhere() {
        BeadDesk x = full(5);
        for (int row = -2; row <= 13; row++) {
            for (int column = -2; column <= 13; column++) {
                boolean inside = row >= 0 && row < 12 && column >= 0 && column < 12;
                due.is("cell(" + row + ", " + column + ")", x.cell(row, column), inside ? 5 : NONE);
            }
        }
        for (int wrong : Charts.WRONG) {
            due.is("cell row " + wrong, x.cell(wrong, 0), NONE);
            due.is("cell column " + wrong, x.cell(0, wrong), NONE);
            due.is("cell both " + wrong, x.cell(wrong, wrong), NONE);
        }
    }

    private static void boughtRoundsUp() {
        BeadDesk x = full(2);
        due.is("144 of 5 in packs of 1", x.bought(2, 1), 1);
        x.colour(2, 3, 1, 100);
        due.is("14400 in packs of 1", x.bought(2, 1), 15);
        due.is("14400 in packs of 14", x.bought(2, 14), 2);
        due.is("14400 in packs of 15", x.bought(2, 15), 1);
        due.is("14400 in packs of 1000", x.bought(2, 1000), 1);
        x.beads(0, 0, 4, Charts.code(6, 6, 6, 6));
        due.is("14000 in packs of 1", x.bought(2, 1), 14);
        due.is("14000 in packs of 7", x.bought(2, 7), 2);
        due.is("14000 in packs of 2", x.bought(2, 2), 7);
        due.is("none of it", x.bought(3, 1), 0);
        x.beads(0, 0, 1, 2);
        due.is("14100 in packs of 7", x.bought(2, 7), 3);
        BeadDesk y = Charts.desk("44444444444");
        y.colour(4, 3, 1, 91);
        due.is("1001 in packs of 1", y.bought(4, 1), 2);
        y.colour(4, 3, 1, 90);
        due.is("990 in packs of 1", y.bought(4, 1), 1);
        due.is("grams 0", x.bought(2, 0), NONE);
        due.is("grams 1001", x.bought(2, 1001), NONE);
        due.is("c -1", x.bought(-1, 1), NONE);
        due.is("c 6", x.bought(6, 1), NONE);
        for (int wrong : Charts.WRONG) {
            due.is("c " + wrong, x.bought(wrong, 1), NONE);
            if (wrong < 1 || wrong > 1000) {
                due.is("grams " + wrong, x.bought(2, wrong), NONE);
            }
        }
    }

    private static void countRefuses() {
        BeadDesk x = Charts.desk("012", "", "555");
        x.work(0);
        due.is("count(6)", x.count(6), 3);
        int[] none = {-1, 7, 8, 9, 16, 17, 18, 19, 26, 27, 30};
        for (int what : none) {
            due.is("count(" + what + ")", x.count(what), NONE);
        }
        for (int wrong : Charts.WRONG) {
            due.is("count(" + wrong + ")", x.count(wrong), NONE);
        }
        int[] colours = {1, 1, 1, 0, 0, 3};
        for (int c = 0; c < 6; c++) {
            x.colour(c, c + 2, 1, 1);
            due.is("count(1" + c + ")", x.count(10 + c), colours[c]);
            due.is("count(2" + c + ")", x.count(20 + c), c + 2);
        }
        due.is("count(0)", x.count(0), 6);
        due.is("count(1)", x.count(1), 2);
        x.beads(11, 11, 1, 0);
        due.is("count(1) with a row of one", x.count(1), 3);
    }
}
