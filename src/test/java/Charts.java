/** Short ways to put charts on a desk. */
final class Charts {
    static final int[] WRONG = {Integer.MIN_VALUE, Integer.MIN_VALUE + 1, -1000000, -145, -13, -2,
        145, 1000000, Integer.MAX_VALUE - 1, Integer.MAX_VALUE};

    private Charts() {
    }

    /** Three bits for each colour, the first one lowest. */
    static long code(int... colours) {
        long code = 0;
        for (int i = colours.length - 1; i >= 0; i--) {
            code = code << 3 | colours[i];
        }
        return code;
    }

    /** A desk with one text for each row from 0 on: a digit is a colour, '.' no bead. */
    static BeadDesk desk(String... rows) {
        BeadDesk desk = new BeadDesk();
        for (int row = 0; row < rows.length; row++) {
            put(desk, row, rows[row]);
        }
        return desk;
    }

    static void put(BeadDesk desk, int row, String text) {
        int[] colours = new int[text.length()];
        for (int i = 0; i < colours.length; i++) {
            colours[i] = text.charAt(i) == '.' ? 6 : text.charAt(i) - '0';
        }
        if (colours.length > 0 && !desk.beads(row, 0, colours.length, code(colours))) {
            throw new IllegalStateException("the test's own chart is wrong");
        }
    }

    static void holes(BeadDesk desk, int hole) {
        for (int c = 0; c < 6; c++) {
            desk.colour(c, hole, 1, 5);
        }
    }
}
