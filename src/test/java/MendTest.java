/** Promises 12 to 14: what hangs on a bead and what is pulled out to mend it. */
public final class MendTest {
    private static final int NONE = BeadDesk.NONE;
    private static final Due due = new Due("MendTest");

    public static void main(String[] args) {
        hangingSquares();
        hangingBricks();
        pulledInOnePiece();
        pulledOverPieces();
        pulledByCatchingAlone();
        pulledByWeavingIn();
        wrongQuestions();
        due.end();
    }

    private static void hangingSquares() {
        BeadDesk x = Charts.desk("000", "0.0", "0.");
        Charts.holes(x, 9);
        x.work(0);
        int[] want = {2, 0, 1, 0, 1, 0};
        for (int k = 0; k < want.length; k++) {
            due.is("squares: hang(" + k + ")", x.hang(k), want[k]);
        }
        due.is("squares: hang(6)", x.hang(6), NONE);
    }

    /** Picked: 0 1 2 in row 0, 3 4 5 in row 1 from column 2 back, 6 7 8 in row 2. */
    private static void hangingBricks() {
        BeadDesk x = Charts.desk("000", "000", "000");
        x.stitch(1);
        Charts.holes(x, 9);
        x.work(0);
        int[] want = {3, 5, 4, 1, 2, 2, 0, 0, 0};
        for (int k = 0; k < want.length; k++) {
            due.is("bricks: hang(" + k + ")", x.hang(k), want[k]);
        }
    }

    private static void pulledInOnePiece() {
        BeadDesk x = Charts.desk("000", "000");
        x.work(0);
        for (int k = 0; k < 6; k++) {
            due.is("one piece: pull(" + k + ")", x.pull(k), 6 - k);
            for (int l = 0; l < 6; l++) {
                due.is("one piece: pulled(" + k + ", " + l + ")", x.pulled(k, l), l >= k ? 1 : 0);
            }
        }
    }

    /** Pieces 0 1 | 2 3 | 4, woven in through 1 and 3. */
    private static void pulledOverPieces() {
        BeadDesk x = Charts.desk("00000");
        Charts.holes(x, 9);
        x.thread(4, 1);
        x.work(0);
        int[] want = {5, 4, 3, 2, 1};
        for (int k = 0; k < want.length; k++) {
            due.is("over pieces: pull(" + k + ")", x.pull(k), want[k]);
        }
    }

    /** Without weaving only catches lead from piece to piece. */
    private static void pulledByCatchingAlone() {
        BeadDesk x = Charts.desk("000", "000");
        Charts.holes(x, 9);
        x.thread(3, 0);
        x.work(0);
        due.picked("catching", x, 2, 0, 0, 1, 2, 3, 4);
        int[][] want = {{0, 1, 4, 5}, {1, 4}, {2, 3}, {3}, {4}, {5}};
        for (int k = 0; k < 6; k++) {
            due.is("catching: pull(" + k + ")", x.pull(k), want[k].length);
            for (int l = 0; l < 6; l++) {
                int is = 0;
                for (int w : want[k]) {
                    is = w == l ? 1 : is;
                }
                due.is("catching: pulled(" + k + ", " + l + ")", x.pulled(k, l), is);
            }
        }
    }

    /** The old piece is woven off through 1 too, but only weaving in leads on. */
    private static void pulledByWeavingIn() {
        BeadDesk x = Charts.desk("02130");
        Charts.holes(x, 9);
        x.colour(1, 2, 1, 5);
        x.colour(2, 3, 1, 5);
        x.thread(7, 2);
        x.work(0);
        due.picked("weaving in", x, 2, 0, 0, 0, 0, 1);
        due.is("woven in through 3", x.woven(1, 0), 3);
        due.is("and through 0", x.woven(1, 1), 0);
        due.is("pull(0)", x.pull(0), 5);
        due.is("pull(2), through 3", x.pull(2), 3);
        due.is("pull(4)", x.pull(4), 1);
        BeadDesk y = Charts.desk("4150");
        Charts.holes(y, 9);
        y.colour(5, 1, 1, 5);
        y.colour(1, 3, 1, 5);
        y.thread(5, 1);
        y.work(0);
        due.worked("5 has no room for the next bead", y, 2, 0, 3, 2, 5, 5, 7);
        due.is("woven in behind the weaving off", y.woven(1, 0), 0);
    }

    private static void wrongQuestions() {
        BeadDesk x = Charts.desk("00", "...0");
        x.work(0);
        due.is("hang(-1)", x.hang(-1), NONE);
        due.is("hang(2)", x.hang(2), NONE);
        due.is("pull(-1)", x.pull(-1), NONE);
        due.is("pull(2)", x.pull(2), NONE);
        due.is("pulled(0, 2)", x.pulled(0, 2), NONE);
        due.is("pulled(2, 0)", x.pulled(2, 0), NONE);
        due.is("pulled(-1, 0)", x.pulled(-1, 0), NONE);
        due.is("pulled(0, -1)", x.pulled(0, -1), NONE);
        due.is("pulled(1, 1)", x.pulled(1, 1), 1);
        for (int wrong : Charts.WRONG) {
            due.is("hang(" + wrong + ")", x.hang(wrong), NONE);
            due.is("pull(" + wrong + ")", x.pull(wrong), NONE);
            due.is("pulled(" + wrong + ", 0)", x.pulled(wrong, 0), NONE);
            due.is("pulled(0, " + wrong + ")", x.pulled(0, wrong), NONE);
        }
    }
}
