/** Short ways to put charts on a desk. */
final class Charts {
    static final int[] WRONG = {Integer.MIN_VALUE, Integer.MIN_VALUE + 1, -1000000, -145, -13, -2,
        145, 1000000, Integer.MAX_VALUE - 1, Integer.MAX_VALUE};

    private Charts() {
    }

    /** Three bits for each colour, the first one lowest. */
    static long code(int... colours) {
        long code = 0;
        for (int i = colours.length - 1; i >= 0; i--) {
            code = code << 3 | colours[i];
        }
        return code;
    }

    /** A desk with one text for each row from 0 on: a digit is a colour, '.' no bead. */
    static BeadDesk desk(String... rows) {
        BeadDesk desk = new BeadDesk();
        for (int row = 0; row < rows.length; row++) {
            put(desk, row, rows[row]);
        }
        return desk;
    }

    static void put(BeadDesk desk, int row, String text) {
        int[] colours = new int[text.length()];
        for (int i = 0; i < colours.length; i++) {
            colours[i] = text.charAt(i) == '.' ? 6 : text.charAt(i) - '0';
        }
        if (colours.length > 0 && !desk.beads(row, 0, colours.length, code(colours))) {
            throw new IllegalStateException("the test's own chart is wrong");
        }
    }

    static void holes(BeadDesk desk, int hole) {
        for (int c = 0; c < 6; c++) {
            desk.colour(c, hole, 1, 5);
        }
    }

    /** Every row the same text. */
    static BeadDesk all(String text) {
        BeadDesk desk = new BeadDesk();
        for (int row = 0; row < 12; row++) {
            put(desk, row, text);
        }
        return desk;
    }

    static String cells(BeadDesk desk) {
        StringBuilder all = new StringBuilder();
        for (int i = 0; i < 144; i++) {
            int colour = desk.cell(i / 12, i % 12);
            all.append(colour == BeadDesk.NONE ? "." : colour);
        }
        return all.toString();
    }

    /** What is set about the chart, as far as it can be asked without working. */
    static String set(BeadDesk desk) {
        StringBuilder all = new StringBuilder();
        for (int what = 0; what <= 5; what++) {
            all.append(desk.count(what)).append(' ');
        }
        for (int c = 0; c < 6; c++) {
            all.append(desk.count(10 + c)).append(' ').append(desk.count(20 + c)).append(' ');
            all.append(desk.bought(c, 1)).append(' ');
        }
        return all.toString();
    }

    /** What was worked; for small charts, so that a desk is not asked more often than 512 times. */
    static String told(BeadDesk desk) {
        StringBuilder all = new StringBuilder();
        for (int what = 0; what < 7; what++) {
            all.append(desk.worked(what)).append(' ');
        }
        int picked = desk.count(6);
        for (int k = 0; k <= picked; k++) {
            for (int what = 0; what < 6; what++) {
                all.append(desk.picked(k, what)).append(' ');
            }
            all.append(desk.order(desk.picked(k, 0), desk.picked(k, 1))).append(' ');
            all.append(desk.hang(k)).append(' ').append(desk.pull(k)).append(' ');
        }
        for (int piece = 0; piece <= desk.worked(3); piece++) {
            all.append(desk.woven(piece, 0)).append(' ').append(desk.woven(piece, 1)).append(' ');
        }
        return all.append(picked).toString();
    }
}
