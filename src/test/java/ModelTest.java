import java.util.Random;

/** All promises: long mixed runs of calls, each answered by the program and by the model. */
public final class ModelTest {
    private static final Due due = new Due("ModelTest");
    private static final int[] faults = new int[5];
    private static int joinsStayed = 0;
    private static int pieced = 0;
    private static int bestFound = 0;

    private final Random random;
    private final BeadDesk desk = new BeadDesk();
    private final Model model = new Model();
    private final String run;
    private final int temper;

    private ModelTest(int seed) {
        random = new Random(seed);
        run = "run " + seed + ": ";
        temper = seed % 4;
    }

    public static void main(String[] args) {
        int runs = args.length > 0 ? Integer.parseInt(args[0]) : 1500;
        for (int seed = 0; seed < runs; seed++) {
            new ModelTest(seed).go();
        }
        for (int f = 0; f < 5; f++) {
            due.is("fault " + f + " was met often", faults[f] > 50, true);
        }
        due.is("joins ahead of a fault 2 were met", joinsStayed > 20, true);
        due.is("many pieces were met", pieced > 50, true);
        due.is("bests were met", bestFound > 50, true);
        due.end();
    }

    private void go() {
        setUp();
        for (int i = 0; i < 12; i++) {
            change();
            if (random.nextInt(3) > 0) {
                work();
            }
            ask();
        }
    }

    private int roll(int least, int most) {
        return least + random.nextInt(most - least + 1);
    }

    /** Mostly good, at times just or far outside. */
    private int roughly(int least, int most) {
        int dice = random.nextInt(40);
        if (dice == 0) {
            return Charts.WRONG[random.nextInt(Charts.WRONG.length)];
        }
        return dice < 4 ? roll(least - 2, most + 2) : roll(least, most);
    }

    private void setUp() {
        int rows = roll(1, temper == 0 ? 12 : 5);
        int first = roll(0, 12 - rows);
        int columns = roll(1, temper == 0 ? 12 : 6);
        int holesIn = roll(0, 4);
        if (random.nextInt(3) == 0) {
            ring(roll(Math.max(3, columns), 12));
        }
        for (int row = first; row < first + rows; row++) {
            long code = 0;
            for (int i = 0; i < columns; i++) {
                boolean empty = holesIn < 3 && random.nextInt(6) < holesIn;
                code |= (long) (empty ? 6 : random.nextInt(6)) << 3 * i;
            }
            beads(row, 0, columns, code);
        }
        stitch(roll(0, 1));
        for (int c = 0; c < 6; c++) {
            colour(c, roll(temper == 1 ? 2 : 4, 9), temper == 2 ? roll(1, 20) : roll(1, 3), roll(1, 100));
        }
        thread(temper == 3 ? roll(1, 15) : roll(5, 80), roll(0, temper == 0 ? 2 : 6));
    }

    private void change() {
        switch (random.nextInt(9)) {
            case 0: stitch(roughly(0, 1)); break;
            case 1: ring(random.nextInt(3) == 0 ? 0 : roughly(0, 12)); break;
            case 2: colour(roughly(0, 5), roughly(1, 9), roughly(1, 20), roughly(1, 100)); break;
            case 3: thread(random.nextInt(3) == 0 ? roughly(1, 9999) : roughly(1, 60), roughly(0, 6)); break;
            case 4: colour(roughly(0, 5), 9, 1, 5); break;
            case 5: thread(roll(10, 60), roll(0, 2)); break;
            default:
                int n = roughly(1, random.nextInt(4) == 0 ? 12 : 3);
                beads(roughly(0, 11), roughly(0, random.nextInt(2) == 0 ? 11 : 4), n, random.nextLong());
        }
    }

    private void work() {
        if (random.nextInt(4) == 0) {
            int best = model.best();
            due.is(run + "best()", desk.best(), best);
            bestFound += best > 0 ? 1 : 0;
        } else {
            int begin = roughly(0, 3);
            due.is(run + "work(" + begin + ")", desk.work(begin), model.work(begin));
        }
        int fault = model.worked(0);
        if (fault >= 0) {
            faults[fault]++;
            pieced += fault == 0 && model.worked(3) > 3 ? 1 : 0;
            boolean stayed = fault == 2 && model.worked(3) > model.picked(model.count(6) - 1, 2) + 1;
            joinsStayed += stayed ? 1 : 0;
        }
    }

    private void beads(int row, int column, int n, long code) {
        due.is(run + "beads(" + row + ", " + column + ", " + n + ", " + code + ")",
            desk.beads(row, column, n, code), model.beads(row, column, n, code));
    }

    private void stitch(int s) {
        due.is(run + "stitch(" + s + ")", desk.stitch(s), model.stitch(s));
    }

    private void ring(int w) {
        due.is(run + "ring(" + w + ")", desk.ring(w), model.ring(w));
    }

    private void colour(int c, int hole, int step, int weight) {
        due.is(run + "colour(" + c + ", " + hole + ", " + step + ", " + weight + ")",
            desk.colour(c, hole, step, weight), model.colour(c, hole, step, weight));
    }

    private void thread(int length, int weave) {
        due.is(run + "thread(" + length + ", " + weave + ")", desk.thread(length, weave), model.thread(length, weave));
    }

    private void ask() {
        for (int what = -1; what <= 26; what++) {
            due.is(run + "count(" + what + ")", desk.count(what), model.count(what));
        }
        for (int what = -1; what <= 7; what++) {
            due.is(run + "worked(" + what + ")", desk.worked(what), model.worked(what));
        }
        int picked = model.count(6);
        for (int k = -1; k <= picked; k++) {
            for (int what = -1; what <= 6; what++) {
                due.is(run + "picked(" + k + ", " + what + ")", desk.picked(k, what), model.picked(k, what));
            }
        }
        for (int i = 0; i < 20; i++) {
            askOne(picked);
        }
        for (int piece = -1; piece <= model.worked(3); piece++) {
            for (int i = -1; i <= 6; i++) {
                due.is(run + "woven(" + piece + ", " + i + ")", desk.woven(piece, i), model.woven(piece, i));
            }
        }
    }

    private void askOne(int picked) {
        int k = roughly(0, Math.max(0, picked - 1));
        int l = roughly(0, Math.max(0, picked - 1));
        due.is(run + "hang(" + k + ")", desk.hang(k), model.hang(k));
        due.is(run + "pull(" + k + ")", desk.pull(k), model.pull(k));
        due.is(run + "pulled(" + k + ", " + l + ")", desk.pulled(k, l), model.pulled(k, l));
        int row = roughly(0, 11);
        int column = roughly(0, 11);
        due.is(run + "cell(" + row + ", " + column + ")", desk.cell(row, column), model.cell(row, column));
        due.is(run + "order(" + row + ", " + column + ")", desk.order(row, column), model.order(row, column));
        int c = roughly(0, 5);
        int grams = random.nextInt(2) == 0 ? roughly(1, 3) : roughly(1, 1000);
        due.is(run + "bought(" + c + ", " + grams + ")", desk.bought(c, grams), model.bought(c, grams));
    }
}
