import java.util.ArrayList;
import java.util.HashMap;
import java.util.HashSet;
import java.util.List;
import java.util.Map;
import java.util.Set;
import java.util.TreeMap;
import java.util.TreeSet;

/**
 * The document said once more, with other means than the program's: sets of places, and rules that are used again
 * and again until nothing new comes. It is asked with the same calls.
 */
final class Model {
    private static final int NONE = -1;

    record Place(int row, int column) {
    }

    /** A bead that was picked up. */
    static final class Picked {
        Place place;
        int colour;
        int piece;
        int passes;
        Set<Place> caughtOn;
    }

    /** What one work() told. */
    static final class Told {
        final List<Picked> picked = new ArrayList<>();
        final List<List<Integer>> wovenIn = new ArrayList<>();
        int fault = 0;
        Place stopped = new Place(NONE, NONE);
        int thread = 0;
        int left = 0;
    }

    private final Map<Place, Integer> chart = new HashMap<>();
    private final int[][] colours = new int[6][];
    private int stitch = 0;
    private int width = 0;
    private int length = 1000;
    private int weave = 2;
    private Told told = null;

    Model() {
        for (int c = 0; c < 6; c++) {
            colours[c] = new int[] {3, 1, 5};
        }
    }

    boolean beads(int row, int column, int n, long code) {
        int end = width == 0 ? 12 : width;
        if (row < 0 || row > 11 || n < 1 || n > 12 || column < 0 || (long) column + n > end) {
            return false;
        }
        for (int i = 0; i < n; i++) {
            int digit = (int) (code % 8 + 8) % 8;
            code = Math.floorDiv(code, 8L);
            if (digit < 6) {
                chart.put(new Place(row, column + i), digit);
            } else if (digit == 6) {
                chart.remove(new Place(row, column + i));
            }
        }
        return true;
    }

    int stitch(int s) {
        if (s < 0 || s > 1) {
            return NONE;
        }
        int was = stitch;
        stitch = s;
        return was;
    }

    boolean ring(int w) {
        if (w != 0 && (w < 3 || w > 12 || chart.keySet().stream().anyMatch(p -> p.column() >= w))) {
            return false;
        }
        width = w;
        return true;
    }

    boolean colour(int c, int hole, int step, int weight) {
        if (c < 0 || c > 5 || hole < 1 || hole > 9 || step < 1 || step > 20 || weight < 1 || weight > 100) {
            return false;
        }
        colours[c] = new int[] {hole, step, weight};
        return true;
    }

    boolean thread(int l, int w) {
        if (l < 1 || l > 9999 || w < 0 || w > 6) {
            return false;
        }
        length = l;
        weave = w;
        return true;
    }

    int cell(int row, int column) {
        return chart.getOrDefault(new Place(row, column), NONE);
    }

    int work(int begin) {
        if (begin < 0 || begin > 3) {
            return NONE;
        }
        told = follow(begin);
        return told.picked.size();
    }

    private List<List<Place>> rowsInOrder(int begin) {
        TreeMap<Integer, TreeSet<Integer>> rows = new TreeMap<>();
        for (Place p : chart.keySet()) {
            rows.computeIfAbsent(p.row(), r -> new TreeSet<>()).add(p.column());
        }
        List<List<Place>> order = new ArrayList<>();
        boolean falling = begin == 1 || begin == 3;
        for (int row : begin < 2 ? rows.navigableKeySet() : rows.descendingKeySet()) {
            List<Place> line = new ArrayList<>();
            for (int column : falling ? rows.get(row).descendingSet() : rows.get(row)) {
                line.add(new Place(row, column));
            }
            order.add(line);
            falling ^= width == 0;
        }
        return order;
    }

    private TreeSet<Integer> catchColumns(Place p) {
        TreeSet<Integer> all = new TreeSet<>();
        if (stitch == 0) {
            all.add(p.column());
            return all;
        }
        int odd = p.row() % 2;
        for (int column : new int[] {p.column() - 1 + odd, p.column() + odd}) {
            all.add(width == 0 ? column : (column + width) % width);
        }
        return all;
    }

    private Told follow(int begin) {
        Told t = new Told();
        List<List<Place>> rows = rowsInOrder(begin);
        for (int r = 0; r < rows.size(); r++) {
            List<Place> row = rows.get(r);
            for (int i = 0; i < row.size(); i++) {
                Place p = row.get(i);
                List<Place> caught = new ArrayList<>();
                for (int column : catchColumns(p)) {
                    Place other = new Place(p.row() + (begin < 2 ? -1 : 1), column);
                    if (chart.containsKey(other)) {
                        caught.add(other);
                    }
                }
                List<Place> passes = new ArrayList<>();
                if (r > 0 && i == 0) {
                    passes.add(width == 0 ? t.picked.get(t.picked.size() - 1).place : rows.get(r - 1).get(0));
                }
                passes.add(p);
                if (r > 0) {
                    passes.addAll(caught);
                } else if (i > 0) {
                    passes.add(row.get(i - 1));
                }
                if (r == 0 && width != 0 && row.size() > 2 && i == row.size() - 1) {
                    passes.add(row.get(0));
                }
                t.fault = r > 0 && caught.isEmpty() ? 1 : stepOf(t, p, passes, caught);
                if (t.fault != 0) {
                    t.stopped = p;
                    return t;
                }
            }
        }
        return t;
    }

    private int stepOf(Told t, Place p, List<Place> passes, List<Place> caught) {
        int need = passes.stream().mapToInt(q -> colours[chart.get(q)][1]).sum();
        if (need > length) {
            return 3;
        }
        if (!t.picked.isEmpty() && need > t.left && !join(t)) {
            return 4;
        }
        Map<Place, Integer> counts = new HashMap<>();
        t.picked.forEach(b -> counts.put(b.place, b.passes));
        for (Place q : passes) {
            if (counts.merge(q, 1, Integer::sum) > colours[chart.get(q)][0]) {
                return 2;
            }
        }
        if (t.picked.isEmpty()) {
            t.wovenIn.add(List.of());
            t.left = length;
        }
        Picked bead = new Picked();
        bead.place = p;
        bead.colour = chart.get(p);
        bead.piece = t.wovenIn.size() - 1;
        bead.caughtOn = new HashSet<>(caught);
        t.picked.add(bead);
        t.picked.forEach(b -> b.passes = counts.get(b.place));
        t.left -= need;
        t.thread += need;
        return 0;
    }

    private boolean join(Told t) {
        int[] counts = t.picked.stream().mapToInt(b -> b.passes).toArray();
        List<Integer> in = List.of();
        for (int time = 0; time < 2; time++) {
            in = new ArrayList<>();
            for (int k = counts.length - 1; k >= 0; k--) {
                if (in.size() < weave && counts[k] < colours[t.picked.get(k).colour][0]) {
                    counts[k]++;
                    in.add(k);
                }
            }
            if (in.size() < weave) {
                return false;
            }
        }
        for (int k = 0; k < counts.length; k++) {
            t.picked.get(k).passes = counts[k];
        }
        t.wovenIn.add(in);
        t.left = length;
        return true;
    }

    int worked(int what) {
        if (told == null || what < 0 || what > 6) {
            return NONE;
        }
        return new int[] {told.fault, told.stopped.row(), told.stopped.column(), told.wovenIn.size(), told.thread,
            told.left, told.picked.stream().mapToInt(b -> b.passes).sum()}[what];
    }

    private boolean has(int k) {
        return told != null && k >= 0 && k < told.picked.size();
    }

    int picked(int k, int what) {
        if (!has(k) || what < 0 || what > 5) {
            return NONE;
        }
        Picked b = told.picked.get(k);
        return new int[] {b.place.row(), b.place.column(), b.piece, b.passes, b.caughtOn.size(), b.colour}[what];
    }

    int order(int row, int column) {
        if (told != null) {
            for (int k = 0; k < told.picked.size(); k++) {
                if (told.picked.get(k).place.equals(new Place(row, column))) {
                    return k;
                }
            }
        }
        return NONE;
    }

    int hang(int k) {
        if (!has(k)) {
            return NONE;
        }
        Set<Integer> all = new HashSet<>();
        for (boolean grown = true; grown;) {
            grown = false;
            for (int j = 0; j < told.picked.size(); j++) {
                Set<Place> on = told.picked.get(j).caughtOn;
                boolean hangs = on.contains(told.picked.get(k).place);
                for (int i : all) {
                    hangs |= on.contains(told.picked.get(i).place);
                }
                grown |= hangs && all.add(j);
            }
        }
        return all.size();
    }

    private Set<Integer> out(int k) {
        Set<Integer> all = new HashSet<>(Set.of(k));
        for (boolean grown = true; grown;) {
            Set<Integer> more = new HashSet<>();
            for (int i : all) {
                Picked from = told.picked.get(i);
                for (int j = 0; j < told.picked.size(); j++) {
                    Picked to = told.picked.get(j);
                    if (j > i && to.piece == from.piece || to.caughtOn.contains(from.place)
                            || told.wovenIn.get(to.piece).contains(i)) {
                        more.add(j);
                    }
                }
            }
            grown = all.addAll(more);
        }
        return all;
    }

    int pull(int k) {
        return has(k) ? out(k).size() : NONE;
    }

    int pulled(int k, int l) {
        return !has(k) || !has(l) ? NONE : out(k).contains(l) ? 1 : 0;
    }

    int woven(int piece, int i) {
        if (told == null || piece < 0 || piece >= told.wovenIn.size()) {
            return NONE;
        }
        List<Integer> beads = told.wovenIn.get(piece);
        return i < 0 || i >= beads.size() ? NONE : beads.get(i);
    }

    int best() {
        int best = NONE;
        Told bestTold = null;
        for (int begin = 3; begin >= 0; begin--) {
            Told t = follow(begin);
            if (t.fault == 0 && (bestTold == null || t.wovenIn.size() < bestTold.wovenIn.size()
                    || t.wovenIn.size() == bestTold.wovenIn.size() && t.thread <= bestTold.thread)) {
                best = begin;
                bestTold = t;
            }
        }
        told = bestTold == null ? told : bestTold;
        return best;
    }

    int bought(int c, int grams) {
        if (c < 0 || c > 5 || grams < 1 || grams > 1000) {
            return NONE;
        }
        int packs = 0;
        while (packs * grams * 1000 < count(10 + c) * colours[c][2]) {
            packs++;
        }
        return packs;
    }

    int count(int what) {
        switch (what) {
            case 0: return chart.size();
            case 1: return (int) chart.keySet().stream().mapToInt(Place::row).distinct().count();
            case 2: return stitch;
            case 3: return width;
            case 4: return length;
            case 5: return weave;
            case 6: return told == null ? 0 : told.picked.size();
            case 10, 11, 12, 13, 14, 15: return (int) chart.values().stream().filter(c -> c == what - 10).count();
            case 20, 21, 22, 23, 24, 25: return colours[what - 20][0];
            default: return NONE;
        }
    }
}
