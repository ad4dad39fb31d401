/** One test for each sentence about the chart that names an edge: Terms, promises 1 to 7, 17 and 18. */
public final class ChartEdgesTest {
    private static final int NONE = BeadDesk.NONE;
    private static final int MIN = Integer.MIN_VALUE;
    private static final int MAX = Integer.MAX_VALUE;
    private static final Due due = new Due("ChartEdgesTest");

    public static void main(String[] args) {
        lastOf512Calls();
        constants();
        rowsAndColumns();
        coloursOrNone();
        stitchAtFirst();
        ringWidths();
        columnsFromWOn();
        holes();
        steps();
        weights();
        weightsInPacks();
        newObject();
        oneToTwelveBeads();
        threeBitsEach();
        noneAndAsItWas();
        otherBeads();
        beyondColumn11();
        beyondW();
        workedStaysBehindBeads();
        otherStitches();
        flatAgain();
        otherRings();
        beadsFromWOn();
        otherColours();
        otherThreads();
        noSuchCell();
        otherBought();
        countsFromEmptyToFull();
        countOfPicked();
        otherCounts();
        due.end();
    }

    private static void lastOf512Calls() {
        due.about("What it is", "An object is used for at most 512 calls after it has been made");
        BeadDesk x = Charts.all("000000000000");
        Charts.holes(x, 9);
        for (int calls = 12 + 6; calls < 511; calls++) {
            x.best();
        }
        due.is("the 512th call, work(0)", x.work(0), 144);
    }

    private static void constants() {
        due.about("The constants", "`NONE = -1`: None.");
        due.is("NONE", BeadDesk.NONE, -1);
    }

    private static void rowsAndColumns() {
        due.about("Terms", "ROWS 0 to 11, COLUMNS 0 to 11");
        BeadDesk x = new BeadDesk();
        int[] edges = {-1, 0, 11, 12};
        for (int row : edges) {
            for (int column : edges) {
                boolean inside = row >= 0 && row <= 11 && column >= 0 && column <= 11;
                String at = "(" + row + ", " + column + ")";
                due.is("beads at " + at, x.beads(row, column, 1, 3), inside);
                due.is("cell" + at, x.cell(row, column), inside ? 3 : NONE);
            }
        }
        due.is("the four corners", x.count(0), 4);
    }

    private static void coloursOrNone() {
        due.about("Terms", "in a cell a BEAD of a COLOUR (0 to 5) or none");
        for (int c = 0; c <= 5; c++) {
            BeadDesk x = new BeadDesk();
            due.is("none, at (7, 4)", x.cell(7, 4), NONE);
            due.is("beads of " + c, x.beads(7, 4, 1, c), true);
            due.is("cell(7, 4)", x.cell(7, 4), c);
            due.is("count of it", x.count(10 + c), 1);
            due.is("none of it again", x.beads(7, 4, 1, 6), true);
            due.is("cell(7, 4) at the end", x.cell(7, 4), NONE);
        }
    }

    /** Squares: (1, 0) is caught on nothing; bricks: on (0, 1). */
    private static void stitchAtFirst() {
        due.about("Terms", "STITCH 0 SQUARE or 1 BRICK (0 at first)");
        BeadDesk x = Charts.desk(".0", "0");
        due.is("count(2)", x.count(2), 0);
        due.is("squares", x.work(0), 1);
        due.is("stitch(1)", x.stitch(1), 0);
        due.is("bricks", x.work(0), 2);
        due.is("stitch(0)", x.stitch(0), 1);
        due.is("squares again", x.work(0), 1);
    }

    private static void ringWidths() {
        due.about("Terms", "a RING of W columns (3 to 12");
        int[] good = {3, 4, 11, 12};
        for (int w : good) {
            BeadDesk x = new BeadDesk();
            due.is("FLAT at first", x.count(3), 0);
            due.is("ring(" + w + ")", x.ring(w), true);
            due.is("W", x.count(3), w);
        }
        int[] bad = {-3, -1, 1, 2, 13};
        for (int w : bad) {
            BeadDesk x = new BeadDesk();
            due.is("ring(" + w + ")", x.ring(w), false);
            due.is("FLAT still", x.count(3), 0);
        }
    }

    private static void columnsFromWOn() {
        due.about("Terms", "columns from W on must have no BEADS; FLAT at first");
        for (int w = 3; w <= 12; w++) {
            for (int row = 0; row < 12; row += 11) {
                BeadDesk x = new BeadDesk();
                x.beads(row, w - 1, 1, 0);
                due.is("a bead in column W - 1, W " + w, x.ring(w), true);
                due.is("W - 1 is too small for it", w > 3 && x.ring(w - 1), false);
                x.beads(row, 11, 1, 0);
                due.is("no bead can come into column 11 now", x.cell(row, 11), w == 12 ? 0 : NONE);
            }
        }
        due.is("FLAT at first", new BeadDesk().beads(0, 0, 12, 0), true);
    }

    private static void holes() {
        due.about("Terms", "Each COLOUR has a HOLE (1 to 9 passes; 3 at first)");
        for (int c = 0; c < 6; c++) {
            BeadDesk x = new BeadDesk();
            due.is("at first", x.count(20 + c), 3);
            due.is("hole 0", x.colour(c, 0, 1, 5), false);
            due.is("hole 10", x.colour(c, 10, 1, 5), false);
            due.is("neither of them", x.count(20 + c), 3);
            due.is("hole 1", x.colour(c, 1, 1, 5), true);
            due.is("count of hole 1", x.count(20 + c), 1);
            due.is("hole 9", x.colour(c, 9, 1, 5), true);
            due.is("count of hole 9", x.count(20 + c), 9);
        }
        // from bead 4 on a join comes ahead of each bead: bead 3 is taken by the first three and once by the fourth
        BeadDesk y = Charts.desk("000010101010");
        y.colour(0, 9, 1, 5);
        y.colour(1, 9, 6, 5);
        y.thread(7, 4);
        due.is("work(0)", y.work(0), 12);
        due.is("nine passes of a hole of nine", y.picked(3, 3), 9);
        due.is("and then one further back", y.woven(4, 3), 2);
    }

    private static void steps() {
        due.about("Terms", "a STEP (1 to 20 of thread for each pass; 1 at first)");
        for (int c = 0; c < 6; c++) {
            BeadDesk x = new BeadDesk();
            x.beads(0, 0, 1, c);
            due.is("at first", threadOf(x), 1);
            due.is("step 2", x.colour(c, 3, 2, 5), true);
            due.is("step 0", x.colour(c, 3, 0, 5), false);
            due.is("step 21", x.colour(c, 3, 21, 5), false);
            due.is("neither of them", threadOf(x), 2);
            due.is("step 1", x.colour(c, 3, 1, 5), true);
            due.is("thread with step 1", threadOf(x), 1);
            due.is("step 20", x.colour(c, 3, 20, 5), true);
            due.is("thread with step 20", threadOf(x), 20);
        }
    }

    private static int threadOf(BeadDesk x) {
        x.work(0);
        return x.worked(4);
    }

    /** 144 beads of weights 1 to 6 need one pack of a gram, of 7 two: more can't be seen of the weight at first. */
    private static void weights() {
        due.about("Terms", "a WEIGHT (1 to 100 thousandths of a gram; 5 at first)");
        for (int c = 0; c < 6; c++) {
            BeadDesk x = full(c);
            due.is("at first", x.bought(c, 1), 1);
            due.is("weight 0", x.colour(c, 3, 1, 0), false);
            due.is("weight 101", x.colour(c, 3, 1, 101), false);
            due.is("neither of them", x.bought(c, 1), 1);
            due.is("weight 100", x.colour(c, 3, 1, 100), true);
            due.is("weight 101 again", x.colour(c, 3, 1, 101), false);
            due.is("bought with weight 100", x.bought(c, 1), 15);
            due.is("weight 1", x.colour(c, 3, 1, 1), true);
            due.is("bought with weight 1", x.bought(c, 1), 1);
        }
    }

    private static BeadDesk full(int c) {
        return Charts.all(String.valueOf(c).repeat(12));
    }

    private static void weightsInPacks() {
        due.about("Terms", "in packs of so many grams (1 to 1000), upwards");
        BeadDesk x = Charts.desk("0000000000");
        x.colour(0, 3, 1, 100);
        due.is("1000 in packs of 1", x.bought(0, 1), 1);
        x.beads(1, 0, 1, 0);
        due.is("1100 in packs of 1", x.bought(0, 1), 2);
        due.is("1100 in packs of 2", x.bought(0, 2), 1);
        due.is("1100 in packs of 1000", x.bought(0, 1000), 1);
        x.beads(1, 1, 9, 0);
        due.is("2000 in packs of 1", x.bought(0, 1), 2);
        due.is("2000 in packs of 2", x.bought(0, 2), 1);
        BeadDesk y = Charts.desk("11111111111");
        y.colour(1, 3, 1, 91);
        due.is("1001 in packs of 1", y.bought(1, 1), 2);
        BeadDesk z = Charts.desk("222222222222", "222222222222", "222222222222", "2");
        z.colour(2, 3, 1, 27);
        due.is("999 in packs of 1", z.bought(2, 1), 1);
        due.is("none", z.bought(3, 1), 0);
        due.is("none in the largest packs", z.bought(3, 1000), 0);
    }

    private static void newObject() {
        due.about("Promise 1", "An empty CHART, nothing worked.");
        BeadDesk x = new BeadDesk();
        due.is("cells", Charts.cells(x), ".".repeat(144));
        due.is("beads", x.count(0), 0);
        due.is("rows", x.count(1), 0);
        due.is("picked", x.count(6), 0);
        for (int what = -1; what <= 7; what++) {
            due.is("worked(" + what + ")", x.worked(what), NONE);
            due.is("picked(0, " + what + ")", x.picked(0, what), NONE);
        }
        due.is("order(0, 0)", x.order(0, 0), NONE);
        due.is("order(11, 11)", x.order(11, 11), NONE);
        due.is("hang(0)", x.hang(0), NONE);
        due.is("pull(0)", x.pull(0), NONE);
        due.is("pulled(0, 0)", x.pulled(0, 0), NONE);
        due.is("woven(0, 0)", x.woven(0, 0), NONE);
        due.is("woven(1, 0)", x.woven(1, 0), NONE);
        BeadDesk y = new BeadDesk();
        x.beads(3, 3, 1, 1);
        x.work(0);
        due.is("another object's chart", y.cell(3, 3), NONE);
        due.is("another object's work", y.worked(0), NONE);
    }

    private static void oneToTwelveBeads() {
        due.about("Promise 2", "n BEADS (1 to 12) of a ROW from a COLUMN on");
        for (int n = -1; n <= 13; n++) {
            BeadDesk x = new BeadDesk();
            boolean good = n >= 1 && n <= 12;
            due.is("beads(4, 0, " + n + ")", x.beads(4, 0, n, 0), good);
            due.is("how many", x.count(0), good ? n : 0);
            due.is("the last of them", x.cell(4, n - 1), good ? 0 : NONE);
            due.is("none behind it", x.cell(4, Math.max(n, 0)), NONE);
        }
        BeadDesk x = new BeadDesk();
        due.is("n 0 in the last column", x.beads(4, 11, 0, 0), false);
        due.is("n 0 behind the last column", x.beads(4, 12, 0, 0), false);
    }

    private static void threeBitsEach() {
        due.about("Promise 2", "three bits each, the first one lowest");
        BeadDesk x = new BeadDesk();
        x.beads(0, 0, 12, Charts.code(0, 1, 2, 3, 4, 5, 4, 3, 2, 1, 0, 5));
        due.is("twelve of them", Charts.cells(x).substring(0, 12), "012345432105");
        x.beads(1, 0, 2, -1L << 6 | 043);
        due.is("bits behind the second bead's", Charts.cells(x).substring(12, 24), "34..........");
        x.beads(2, 0, 12, Long.MIN_VALUE);
        due.is("bits behind the twelfth bead's", x.cell(2, 11), 0);
    }

    private static void noneAndAsItWas() {
        due.about("Promise 2", "COLOURS, 6 none, 7 as it was: true");
        BeadDesk x = Charts.desk("0123");
        due.is("6 and 7 over beads and none", x.beads(0, 2, 4, Charts.code(6, 7, 6, 7)), true);
        due.is("the row", Charts.cells(x).substring(0, 12), "01.3........");
        due.is("nothing but 7", x.beads(0, 0, 12, -1L), true);
        due.is("the row as it was", Charts.cells(x).substring(0, 12), "01.3........");
        due.is("nothing but 6", x.beads(0, 0, 12, 0666666666666L), true);
        due.is("nothing is left", x.count(0), 0);
    }

    private static void otherBeads() {
        due.about("Promise 2", "false, and nothing happens, for others");
        BeadDesk x = Charts.desk("012345", "555");
        String cells = Charts.cells(x);
        String set = Charts.set(x);
        int[][] bad = {{-1, 0, 1}, {12, 0, 1}, {MIN, 0, 1}, {MAX, 0, 1}, {0, -1, 1}, {1, -1, 2}, {0, MIN, 1},
            {0, MAX, 1}, {0, MAX, MAX}, {0, MIN, MIN}, {0, 0, 0}, {0, 0, -1}, {0, 0, 13}, {0, 0, MIN}, {0, 0, MAX},
            {0, 1, MAX}, {0, -1, MIN}, {0, 12, -1}, {1, -12, 12}, {0, -12, 13}};
        for (int[] b : bad) {
            due.is("beads(" + b[0] + ", " + b[1] + ", " + b[2] + ")", x.beads(b[0], b[1], b[2], 0), false);
        }
        due.is("cells", Charts.cells(x), cells);
        due.is("set", Charts.set(x), set);
    }

    private static void beyondColumn11() {
        due.about("Promise 2", "beyond COLUMN 11");
        for (int column = 0; column <= 12; column++) {
            BeadDesk x = new BeadDesk();
            int room = 12 - column;
            due.is("one too many from " + column, x.beads(5, column, room + 1, 0), false);
            due.is("one too many, with none there", x.beads(5, column, room + 1, 6L << 3 * room), false);
            due.is("nothing happened", x.count(0), 0);
            due.is("just up to column 11", x.beads(5, column, room, 0), room > 0);
            due.is("row 6 has nothing of it", x.cell(6, 0), NONE);
        }
    }

    private static void beyondW() {
        due.about("Promise 2", "(beyond COLUMN 11, or W)");
        for (int w = 3; w <= 12; w++) {
            BeadDesk x = new BeadDesk();
            x.ring(w);
            due.is("one too many for W " + w, x.beads(0, 0, w + 1, 0), false);
            due.is("in column W", x.beads(0, w, 1, 0), false);
            due.is("in column W, none", x.beads(0, w, 1, 6), false);
            due.is("in column W, as it was", x.beads(0, w, 1, 7), false);
            due.is("over W from within", x.beads(0, w - 1, 2, Charts.code(0, 6)), false);
            due.is("nothing happened", x.count(0), 0);
            due.is("just up to W", x.beads(0, 0, w, 0), true);
            due.is("the last column of the ring", x.beads(1, w - 1, 1, 0), true);
            due.is("all of these", x.count(0), w + 1);
        }
    }

    private static void workedStaysBehindBeads() {
        due.about("Promise 2", "What was worked stays as it was told.");
        BeadDesk x = Charts.desk("01", "23");
        Charts.holes(x, 9);
        x.thread(6, 1);
        x.work(0);
        String told = Charts.told(x);
        x.beads(0, 0, 2, Charts.code(6, 5));
        due.is("one taken away, one of another colour", Charts.told(x), told);
        x.beads(2, 0, 2, 0);
        due.is("new ones", Charts.told(x), told);
        due.is("no order of a new one", x.order(2, 0), NONE);
        due.is("a refused one", x.beads(2, 0, 13, 0), false);
        due.is("behind it", Charts.told(x), told);
        due.is("order of the one that is gone", x.order(0, 0), 0);
        due.is("the cell itself", x.cell(0, 0), NONE);
    }

    private static void otherStitches() {
        due.about("Promise 3", "what it was; NONE, and nothing happens, for others");
        for (int s = 0; s <= 1; s++) {
            BeadDesk x = new BeadDesk();
            due.is("stitch at first", x.stitch(s), 0);
            int[] bad = {-1, 2, MIN, MAX};
            for (int b : bad) {
                due.is("stitch(" + b + ")", x.stitch(b), NONE);
                due.is("count(2)", x.count(2), s);
            }
            due.is("what it was", x.stitch(1 - s), s);
            due.is("what it was then", x.stitch(1 - s), 1 - s);
        }
    }

    private static void flatAgain() {
        due.about("Promise 4", "A RING of W columns (0: FLAT): true");
        BeadDesk x = new BeadDesk();
        due.is("ring(0) of a flat one", x.ring(0), true);
        x.ring(3);
        due.is("beyond W", x.beads(0, 3, 1, 0), false);
        due.is("ring(0) of a ring", x.ring(0), true);
        due.is("W", x.count(3), 0);
        due.is("not beyond anything", x.beads(0, 0, 12, 0), true);
        due.is("ring(0) of a full row", x.ring(0), true);
    }

    private static void otherRings() {
        due.about("Promise 4", "false, and nothing happens, for others");
        BeadDesk x = new BeadDesk();
        x.ring(5);
        int[] bad = {1, 2, 13, -1, -3, -12, MIN, MAX};
        for (int b : bad) {
            due.is("ring(" + b + ")", x.ring(b), false);
            due.is("W", x.count(3), 5);
        }
    }

    private static void beadsFromWOn() {
        due.about("Promise 4", "or if there are BEADS from W on");
        for (int w = 3; w <= 11; w++) {
            BeadDesk x = new BeadDesk();
            x.beads(11, w, 1, 5);
            due.is("a bead in column W, W " + w, x.ring(w), false);
            due.is("FLAT still", x.count(3), 0);
            due.is("one wider", x.ring(w + 1), true);
            due.is("narrower than the ring that is", x.ring(w), false);
            due.is("the ring that was", x.count(3), w + 1);
            x.beads(11, w, 1, 6);
            due.is("without the bead", x.ring(w), true);
            due.is("W", x.count(3), w);
        }
    }

    private static void otherColours() {
        due.about("Promise 5", "HOLE, STEP and WEIGHT of a COLOUR: true; false, and nothing happens, for others.");
        BeadDesk x = full(1);
        due.is("a good one", x.colour(1, 4, 7, 50), true);
        String set = Charts.set(x);
        int[][] bad = {{-1, 1, 1, 1}, {6, 1, 1, 1}, {MIN, 1, 1, 1}, {MAX, 1, 1, 1}, {1, 0, 1, 1}, {1, 10, 1, 1},
            {1, MIN, 1, 1}, {1, MAX, 1, 1}, {1, 1, 0, 1}, {1, 1, 21, 1}, {1, 1, MIN, 1}, {1, 1, MAX, 1}, {1, 1, 1, 0},
            {1, 1, 1, 101}, {1, 1, 1, MIN}, {1, 1, 1, MAX}};
        for (int[] b : bad) {
            due.is("colour(" + b[0] + ", " + b[1] + ", " + b[2] + ", " + b[3] + ")",
                x.colour(b[0], b[1], b[2], b[3]), false);
            due.is("holes and weights", Charts.set(x), set);
        }
        BeadDesk y = Charts.desk("1");
        y.colour(1, 4, 7, 50);
        due.is("only the hole is wrong", y.colour(1, 10, 8, 51), false);
        due.is("only the weight is wrong", y.colour(1, 5, 8, 101), false);
        due.is("the step is what it was", threadOf(y), 7);
        due.is("the hole is what it was", y.count(21), 4);
    }

    private static void otherThreads() {
        due.about("Promise 6", "LENGTH and WEAVE: true; false, and nothing happens, for others.");
        BeadDesk x = new BeadDesk();
        due.is("LENGTH at first", x.count(4), 1000);
        due.is("WEAVE at first", x.count(5), 2);
        int[][] good = {{1, 0}, {9999, 6}, {1, 6}, {9999, 0}};
        int[][] bad = {{0, 3}, {10000, 3}, {-1, 3}, {MIN, 3}, {MAX, 3}, {500, -1}, {500, 7}, {500, MIN}, {500, MAX}};
        for (int[] g : good) {
            due.is("thread(" + g[0] + ", " + g[1] + ")", x.thread(g[0], g[1]), true);
            for (int[] b : bad) {
                due.is("thread(" + b[0] + ", " + b[1] + ")", x.thread(b[0], b[1]), false);
                due.is("LENGTH", x.count(4), g[0]);
                due.is("WEAVE", x.count(5), g[1]);
            }
        }
    }

    private static void noSuchCell() {
        due.about("Promise 7", "The COLOUR in a cell; NONE: none, or no such cell.");
        BeadDesk x = full(4);
        x.beads(5, 5, 1, 6);
        due.is("none", x.cell(5, 5), NONE);
        int[] bad = {-1, 12, -12, 13, MIN, MAX};
        for (int b : bad) {
            for (int good = 0; good < 12; good += 11) {
                due.is("cell(" + b + ", " + good + ")", x.cell(b, good), NONE);
                due.is("cell(" + good + ", " + b + ")", x.cell(good, b), NONE);
            }
            due.is("cell(" + b + ", " + b + ")", x.cell(b, b), NONE);
        }
        due.is("cell(1, -1), not (0, 11)", x.cell(1, -1), NONE);
        due.is("cell(0, 12), not (1, 0)", x.cell(0, 12), NONE);
        due.is("cell(-1, 12), not (0, 0)", x.cell(-1, 12), NONE);
        due.is("cell(12, -1), not (11, 11)", x.cell(12, -1), NONE);
        BeadDesk y = new BeadDesk();
        y.ring(3);
        due.is("beyond the ring", y.cell(0, 3), NONE);
    }

    private static void otherBought() {
        due.about("Promise 17", "how many packs; NONE without these");
        BeadDesk x = full(0);
        int[] badColours = {-1, 6, MIN, MAX};
        int[] badGrams = {0, -1, 1001, MIN, MAX};
        for (int c : badColours) {
            due.is("bought(" + c + ", 1)", x.bought(c, 1), NONE);
        }
        for (int g : badGrams) {
            due.is("bought(0, " + g + ")", x.bought(0, g), NONE);
            due.is("bought(5, " + g + ") of none", x.bought(5, g), NONE);
        }
        due.is("bought(0, 1)", x.bought(0, 1), 1);
        due.is("bought(0, 1000)", x.bought(0, 1000), 1);
        due.is("bought(5, 1), no bead of it", x.bought(5, 1), 0);
    }

    private static void countsFromEmptyToFull() {
        due.about("Promise 18", "0: BEADS of the CHART, 1: ROWS with BEADS");
        BeadDesk x = new BeadDesk();
        due.is("empty: beads", x.count(0), 0);
        due.is("empty: rows", x.count(1), 0);
        x.beads(11, 11, 1, 0);
        due.is("one: beads", x.count(0), 1);
        due.is("one: rows", x.count(1), 1);
        x.beads(11, 11, 1, 6);
        due.is("none again: rows", x.count(1), 0);
        BeadDesk y = full(5);
        due.is("full: beads", y.count(0), 144);
        due.is("full: rows", y.count(1), 12);
        due.is("full: of the colour", y.count(15), 144);
        due.is("full: of another", y.count(14), 0);
    }

    private static void countOfPicked() {
        due.about("Promise 18", "6: PICKED");
        BeadDesk x = Charts.desk("00", "..0");
        due.is("ahead of any work", x.count(6), 0);
        x.work(0);
        due.is("up to a fault", x.count(6), 2);
        x.beads(0, 2, 1, 0);
        due.is("of the work that was", x.count(6), 2);
        x.work(0);
        due.is("all", x.count(6), 4);
        BeadDesk y = full(0);
        Charts.holes(y, 9);
        y.work(0);
        due.is("a full chart", y.count(6), 144);
    }

    private static void otherCounts() {
        due.about("Promise 18", "10 to 15: BEADS of a COLOUR; 20 to 25: HOLES. NONE for others.");
        BeadDesk x = Charts.desk("0", "11", "222", "3333", "44444", "555555");
        for (int c = 0; c < 6; c++) {
            x.colour(c, 9 - c, 1, 5);
        }
        for (int c = 0; c < 6; c++) {
            due.is("count(1" + c + ")", x.count(10 + c), c + 1);
            due.is("count(2" + c + ")", x.count(20 + c), 9 - c);
        }
        int[] others = {-1, 7, 8, 9, 16, 17, 18, 19, 26, 27, -10, -20, MIN, MIN + 9, MIN + 10, MIN + 20, MAX};
        for (int what : others) {
            due.is("count(" + what + ")", x.count(what), NONE);
        }
    }
}
