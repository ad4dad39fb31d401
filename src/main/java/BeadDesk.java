import java.util.Arrays;

/** A desk for beads on one thread: a chart, the way of the thread through it, and what follows from that way. */
public final class BeadDesk {
    public static final int NONE = -1;

    private static final int ROWS = 12;
    private static final int COLUMNS = 12;
    private static final int CELLS = ROWS * COLUMNS;
    private static final int COLOURS = 6;
    private static final int BEGINS = 4;

    private static final int SQUARE = 0;
    private static final int BRICK = 1;
    private static final int FLAT = 0;
    private static final int LEAST_RING = 3;

    private static final int MOST_HOLE = 9;
    private static final int MOST_STEP = 20;
    private static final int MOST_WEIGHT = 100;
    private static final int MOST_LENGTH = 9999;
    private static final int MOST_WEAVE = 6;
    private static final int MOST_GRAMS = 1000;
    private static final int WEIGHTS_IN_A_GRAM = 1000;

    private static final int BITS_OF_A_BEAD = 3;
    private static final long MASK_OF_A_BEAD = 7L;
    private static final int CODE_EMPTY = 6;
    private static final int CODE_AS_IT_WAS = 7;

    private static final int NO_FAULT = 0;
    private static final int CAUGHT_ON_NOTHING = 1;
    private static final int HOLE_IS_FULL = 2;
    private static final int STEP_BEYOND_LENGTH = 3;
    private static final int NO_JOIN = 4;

    /** The turn, the bead itself and two that it is caught on. */
    private static final int MOST_PASSES_OF_A_STEP = 4;

    private final Chart chart;
    private final Mend mend;
    private Way told;
    private Way trial;

    public BeadDesk() {
        chart = new Chart();
        told = new Way();
        trial = new Way();
        mend = new Mend();
    }

    public boolean beads(int row, int column, int n, long colours) {
        if (!chart.holdsRun(row, column, n)) {
            return false;
        }
        chart.putRun(row, column, n, colours);
        return true;
    }

    public int stitch(int s) {
        if (s != SQUARE && s != BRICK) {
            return NONE;
        }
        int before = chart.stitch;
        chart.stitch = s;
        return before;
    }

    public boolean ring(int w) {
        if (w != FLAT && (!isWithin(w, LEAST_RING, COLUMNS) || chart.hasBeadsFrom(w))) {
            return false;
        }
        chart.width = w;
        return true;
    }

    public boolean colour(int c, int hole, int step, int weight) {
        if (!isColour(c) || !isWithin(hole, 1, MOST_HOLE)
                || !isWithin(step, 1, MOST_STEP) || !isWithin(weight, 1, MOST_WEIGHT)) {
            return false;
        }
        chart.hole[c] = hole;
        chart.step[c] = step;
        chart.weight[c] = weight;
        return true;
    }

    public boolean thread(int length, int weave) {
        if (!isWithin(length, 1, MOST_LENGTH) || !isWithin(weave, 0, MOST_WEAVE)) {
            return false;
        }
        chart.length = length;
        chart.weave = weave;
        return true;
    }

    public int cell(int row, int column) {
        return chart.colourAt(row, column);
    }

    public int work(int begin) {
        if (!isWithin(begin, 0, BEGINS - 1)) {
            return NONE;
        }
        told.follow(chart, begin);
        return told.pickedCount;
    }

    public int worked(int what) {
        if (!told.followed) {
            return NONE;
        }
        switch (what) {
            case 0: return told.fault;
            case 1: return rowOf(told.faultCell);
            case 2: return columnOf(told.faultCell);
            case 3: return told.pieces;
            case 4: return told.used;
            case 5: return told.left;
            case 6: return told.passes;
            default: return NONE;
        }
    }

    public int picked(int k, int what) {
        if (!told.has(k)) {
            return NONE;
        }
        switch (what) {
            case 0: return rowOf(told.cellOf[k]);
            case 1: return columnOf(told.cellOf[k]);
            case 2: return told.pieceOf[k];
            case 3: return told.passesOf[k];
            case 4: return told.caughtCount(k);
            case 5: return told.colourOf[k];
            default: return NONE;
        }
    }

    public int order(int row, int column) {
        return told.pickAt(row, column);
    }

    public int hang(int k) {
        return told.has(k) ? mend.markHanging(told, k) : NONE;
    }

    public int pull(int k) {
        return told.has(k) ? mend.markPulledOut(told, k) : NONE;
    }

    public int pulled(int k, int l) {
        if (!told.has(k) || !told.has(l)) {
            return NONE;
        }
        mend.markPulledOut(told, k);
        return mend.marks[l];
    }

    public int woven(int piece, int i) {
        return told.wovenIn(piece, i);
    }

    public int best() {
        int best = NONE;
        for (int begin = 0; begin < BEGINS; begin++) {
            trial.follow(chart, begin);
            if (trial.fault == NO_FAULT && (best == NONE || trial.isCheaperThan(told))) {
                best = begin;
                tellTrial();
            }
        }
        return best;
    }

    /** What was told is free from here on: it may be overwritten by the next trial. */
    private void tellTrial() {
        Way spare = told;
        told = trial;
        trial = spare;
    }

    public int bought(int c, int grams) {
        if (!isColour(c) || !isWithin(grams, 1, MOST_GRAMS)) {
            return NONE;
        }
        int weight = chart.beadsOfColour(c) * chart.weight[c];
        int pack = grams * WEIGHTS_IN_A_GRAM;
        return (weight + pack - 1) / pack;
    }

    public int count(int what) {
        if (isColour(what - 10)) {
            return chart.beadsOfColour(what - 10);
        }
        if (isColour(what - 20)) {
            return chart.hole[what - 20];
        }
        switch (what) {
            case 0: return chart.allBeads();
            case 1: return chart.rowsWithBeads();
            case 2: return chart.stitch;
            case 3: return chart.width;
            case 4: return chart.length;
            case 5: return chart.weave;
            case 6: return told.pickedCount;
            default: return NONE;
        }
    }

    private static boolean isWithin(int value, int least, int most) {
        return value >= least && value <= most;
    }

    private static boolean isColour(int c) {
        return isWithin(c, 0, COLOURS - 1);
    }

    private static boolean isCell(int row, int column) {
        return isWithin(row, 0, ROWS - 1) && isWithin(column, 0, COLUMNS - 1);
    }

    private static int rowOf(int cell) {
        return cell == NONE ? NONE : cell / COLUMNS;
    }

    private static int columnOf(int cell) {
        return cell == NONE ? NONE : cell % COLUMNS;
    }

    /** The beads and all that is set about them: what the next work will start from. */
    private static final class Chart {
        final int[] cells = new int[CELLS];
        final int[] hole = new int[COLOURS];
        final int[] step = new int[COLOURS];
        final int[] weight = new int[COLOURS];
        int stitch = SQUARE;
        int width = FLAT;
        int length = 1000;
        int weave = 2;

        Chart() {
            Arrays.fill(cells, NONE);
            Arrays.fill(hole, 3);
            Arrays.fill(step, 1);
            Arrays.fill(weight, 5);
        }

        int columnsInUse() {
            return width == FLAT ? COLUMNS : width;
        }

        boolean holdsRun(int row, int column, int n) {
            return isCell(row, column) && isWithin(n, 1, COLUMNS) && column + n <= columnsInUse();
        }

        void putRun(int row, int column, int n, long colours) {
            for (int i = 0; i < n; i++) {
                int code = (int) ((colours >>> (BITS_OF_A_BEAD * i)) & MASK_OF_A_BEAD);
                if (code != CODE_AS_IT_WAS) {
                    cells[row * COLUMNS + column + i] = code == CODE_EMPTY ? NONE : code;
                }
            }
        }

        int colourAt(int row, int column) {
            return isCell(row, column) ? cells[row * COLUMNS + column] : NONE;
        }

        boolean hasBeadsFrom(int firstColumn) {
            for (int i = 0; i < CELLS; i++) {
                if (i % COLUMNS >= firstColumn && cells[i] != NONE) {
                    return true;
                }
            }
            return false;
        }

        int beadsInRow(int row) {
            int beads = 0;
            for (int column = 0; column < COLUMNS; column++) {
                if (colourAt(row, column) != NONE) {
                    beads++;
                }
            }
            return beads;
        }

        int rowsWithBeads() {
            int rows = 0;
            for (int row = 0; row < ROWS; row++) {
                if (beadsInRow(row) > 0) {
                    rows++;
                }
            }
            return rows;
        }

        int allBeads() {
            return CELLS - cellsThatHold(NONE);
        }

        int beadsOfColour(int c) {
            return cellsThatHold(c);
        }

        private int cellsThatHold(int content) {
            int found = 0;
            for (int i = 0; i < CELLS; i++) {
                if (cells[i] == content) {
                    found++;
                }
            }
            return found;
        }

        /** The lower of the columns, in the row next to it, in which a bead may be caught. */
        int lowerCatch(int row, int column) {
            if (stitch == SQUARE) {
                return column;
            }
            return Math.min(leftCatch(row, column), rightCatch(row, column));
        }

        /** The higher of these columns; NONE where there is but one. */
        int upperCatch(int row, int column) {
            if (stitch == SQUARE) {
                return NONE;
            }
            return Math.max(leftCatch(row, column), rightCatch(row, column));
        }

        private int leftCatch(int row, int column) {
            return aroundTheRing(column - 1 + row % 2);
        }

        private int rightCatch(int row, int column) {
            return aroundTheRing(column + row % 2);
        }

        /** A bead is never caught further out than one column beside the ring. */
        private int aroundTheRing(int column) {
            return width == FLAT ? column : (column + width) % width;
        }
    }

    /** One way of the thread; it holds copies of what it needs, so that later changes of the chart leave it alone. */
    private static final class Way {
        final int[] cellOf = new int[CELLS];
        final int[] colourOf = new int[CELLS];
        final int[] pieceOf = new int[CELLS];
        final int[] passesOf = new int[CELLS];
        final int[] lowerOf = new int[CELLS];
        final int[] upperOf = new int[CELLS];
        final int[] pickOf = new int[CELLS];
        /** No piece but the last is without a bead, so there are never more pieces than cells. */
        final int[] wovenThrough = new int[CELLS * MOST_WEAVE];
        final int[] wovenOff = new int[MOST_WEAVE];
        final Step step = new Step();
        boolean followed = false;
        int pickedCount = 0;
        int fault = NO_FAULT;
        int faultCell = NONE;
        int pieces = 0;
        int used = 0;
        int left = 0;
        int passes = 0;
        int weave = 0;

        Way() {
            Arrays.fill(pickOf, NONE);
        }

        boolean has(int k) {
            return k >= 0 && k < pickedCount;
        }

        boolean isCheaperThan(Way other) {
            return pieces < other.pieces || (pieces == other.pieces && used < other.used);
        }

        int pickAt(int row, int column) {
            return isCell(row, column) ? pickOf[row * COLUMNS + column] : NONE;
        }

        int caughtCount(int k) {
            return (lowerOf[k] == NONE ? 0 : 1) + (upperOf[k] == NONE ? 0 : 1);
        }

        int wovenIn(int piece, int i) {
            if (piece < 1 || piece >= pieces || i < 0 || i >= weave) {
                return NONE;
            }
            return wovenThrough[piece * MOST_WEAVE + i];
        }

        void follow(Chart chart, int begin) {
            startAnew(chart);
            boolean up = begin < 2;
            boolean rising = begin % 2 == 0;
            int firstOfRowBefore = NONE;
            for (int i = 0; i < ROWS && fault == NO_FAULT; i++) {
                int row = up ? i : ROWS - 1 - i;
                if (chart.beadsInRow(row) > 0) {
                    int firstOfRow = pickedCount;
                    followRow(chart, row, up ? row - 1 : row + 1, rising, firstOfRowBefore);
                    firstOfRowBefore = firstOfRow;
                    rising = chart.width == FLAT ? !rising : rising;
                }
            }
        }

        private void startAnew(Chart chart) {
            Arrays.fill(pickOf, NONE);
            followed = true;
            pickedCount = 0;
            fault = NO_FAULT;
            faultCell = NONE;
            pieces = 0;
            used = 0;
            left = 0;
            passes = 0;
            weave = chart.weave;
        }

        private void followRow(Chart chart, int row, int rowBefore, boolean rising, int firstOfRowBefore) {
            int firstOfRow = pickedCount;
            int lastOfRow = firstOfRow + chart.beadsInRow(row) - 1;
            boolean isFirstRow = firstOfRowBefore == NONE;
            for (int i = 0; i < COLUMNS && fault == NO_FAULT && pickedCount < CELLS; i++) {
                int column = rising ? i : COLUMNS - 1 - i;
                if (chart.colourAt(row, column) != NONE) {
                    layOut(chart, row, column, rowBefore);
                    if (isFirstRow) {
                        gatherInFirstRow(chart.width != FLAT, lastOfRow);
                    } else {
                        boolean turns = pickedCount == firstOfRow;
                        int turn = chart.width == FLAT ? pickedCount - 1 : firstOfRowBefore;
                        gatherInLaterRow(turns ? turn : NONE);
                    }
                    doStep(chart, isFirstRow);
                }
            }
        }

        /** Writes the next bead behind those picked up; it counts only once it is picked up. */
        private void layOut(Chart chart, int row, int column, int rowBefore) {
            int bead = pickedCount;
            cellOf[bead] = row * COLUMNS + column;
            colourOf[bead] = chart.colourAt(row, column);
            passesOf[bead] = 0;
            lowerOf[bead] = pickAt(rowBefore, chart.lowerCatch(row, column));
            upperOf[bead] = pickAt(rowBefore, chart.upperCatch(row, column));
        }

        /** Before the very first bead stands NONE, which is no pass. */
        private void gatherInFirstRow(boolean isRing, int lastOfRow) {
            int bead = pickedCount;
            step.empty();
            step.pass(bead);
            step.pass(bead - 1);
            if (isRing && bead == lastOfRow && lastOfRow >= 2) {
                step.pass(0);
            }
        }

        private void gatherInLaterRow(int turn) {
            int bead = pickedCount;
            step.empty();
            step.pass(turn);
            step.pass(bead);
            step.pass(lowerOf[bead]);
            step.pass(upperOf[bead]);
        }

        private void doStep(Chart chart, boolean isFirstRow) {
            int need = step.threadNeeded(chart, colourOf);
            fault = faultAhead(chart, need, isFirstRow);
            if (fault == NO_FAULT) {
                pickUp(chart, need);
            } else {
                faultCell = cellOf[pickedCount];
            }
        }

        private int faultAhead(Chart chart, int need, boolean isFirstRow) {
            if (!isFirstRow && caughtCount(pickedCount) == 0) {
                return CAUGHT_ON_NOTHING;
            }
            if (need > chart.length) {
                return STEP_BEYOND_LENGTH;
            }
            if (pieces > 0 && left < need && !join(chart)) {
                return NO_JOIN;
            }
            return step.fits(chart, colourOf, passesOf) ? NO_FAULT : HOLE_IS_FULL;
        }

        private void pickUp(Chart chart, int need) {
            if (pieces == 0) {
                pieces = 1;
                left = chart.length;
            }
            pieceOf[pickedCount] = pieces - 1;
            pickOf[cellOf[pickedCount]] = pickedCount;
            step.countInto(passesOf);
            passes += step.size;
            left -= need;
            used += need;
            pickedCount++;
        }

        /** Weaves at once and takes it back if it can't be: the new piece must see the old one's passes. */
        private boolean join(Chart chart) {
            int off = weaveThrough(chart, wovenOff, 0);
            if (off < weave || pieces >= CELLS) {
                unweave(wovenOff, 0, off);
                return false;
            }
            int start = pieces * MOST_WEAVE;
            int in = weaveThrough(chart, wovenThrough, start);
            if (in < weave) {
                unweave(wovenThrough, start, in);
                unweave(wovenOff, 0, off);
                return false;
            }
            passes += off + in;
            pieces++;
            left = chart.length;
            return true;
        }

        /** Passes the last beads with room, at most as many as the weave asks for: how many there were. */
        private int weaveThrough(Chart chart, int[] through, int start) {
            int found = 0;
            for (int bead = pickedCount - 1; bead >= 0 && found < weave; bead--) {
                if (passesOf[bead] < chart.hole[colourOf[bead]]) {
                    passesOf[bead]++;
                    through[start + found] = bead;
                    found++;
                }
            }
            return found;
        }

        private void unweave(int[] through, int start, int found) {
            for (int i = 0; i < found; i++) {
                passesOf[through[start + i]]--;
            }
        }
    }

    /** The passes of one step of work, one behind the other. */
    private static final class Step {
        final int[] beads = new int[MOST_PASSES_OF_A_STEP];
        int size = 0;

        void empty() {
            size = 0;
        }

        /** NONE is no bead and no pass. */
        void pass(int bead) {
            if (bead != NONE && size < MOST_PASSES_OF_A_STEP) {
                beads[size] = bead;
                size++;
            }
        }

        int threadNeeded(Chart chart, int[] colourOf) {
            int need = 0;
            for (int i = 0; i < size; i++) {
                need += chart.step[colourOf[beads[i]]];
            }
            return need;
        }

        boolean fits(Chart chart, int[] colourOf, int[] passesOf) {
            for (int i = 0; i < size; i++) {
                int bead = beads[i];
                if (passesOf[bead] + passesUpTo(i) > chart.hole[colourOf[bead]]) {
                    return false;
                }
            }
            return true;
        }

        /** How often this step itself has passed the bead of its i-th pass by then: the turn may come back to it. */
        private int passesUpTo(int i) {
            int same = 0;
            for (int j = 0; j <= i; j++) {
                if (beads[j] == beads[i]) {
                    same++;
                }
            }
            return same;
        }

        void countInto(int[] passesOf) {
            for (int i = 0; i < size; i++) {
                passesOf[beads[i]]++;
            }
        }
    }

    /** What goes with a bead of a way: what hangs on it, and what is pulled out with it. */
    private static final class Mend {
        final int[] marks = new int[CELLS];

        /** One walk is enough: a bead is only ever caught on beads picked up earlier. */
        int markHanging(Way way, int k) {
            int hanging = 0;
            markOnly(k);
            for (int bead = k + 1; bead < way.pickedCount; bead++) {
                if (isCaughtOnMarked(way, bead)) {
                    marks[bead] = 1;
                    hanging++;
                }
            }
            return hanging;
        }

        /** One walk is enough: a bead only ever takes beads picked up later out with it. */
        int markPulledOut(Way way, int k) {
            int out = 1;
            markOnly(k);
            for (int bead = k + 1; bead < way.pickedCount; bead++) {
                if (isBehindMarked(way, bead) || isCaughtOnMarked(way, bead) || isWovenInMarked(way, bead)) {
                    marks[bead] = 1;
                    out++;
                }
            }
            return out;
        }

        private void markOnly(int k) {
            Arrays.fill(marks, 0);
            marks[k] = 1;
        }

        private boolean isMarked(int bead) {
            return bead != NONE && marks[bead] == 1;
        }

        private boolean isCaughtOnMarked(Way way, int bead) {
            return isMarked(way.lowerOf[bead]) || isMarked(way.upperOf[bead]);
        }

        /** A piece's beads are picked up one behind the other, so the neighbour tells for all of them. */
        private boolean isBehindMarked(Way way, int bead) {
            return way.pieceOf[bead - 1] == way.pieceOf[bead] && isMarked(bead - 1);
        }

        private boolean isWovenInMarked(Way way, int bead) {
            for (int i = 0; i < way.weave; i++) {
                if (isMarked(way.wovenIn(way.pieceOf[bead], i))) {
                    return true;
                }
            }
            return false;
        }
    }
}
