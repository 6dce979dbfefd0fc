/** Promises 8, 9 and 10: measure, point, font. */
final class MeasuresTest {
    public static void main(String[] args) {
        widths();
        measures();
        leastAndGreatest();
        wrongMeasures();
        points();
        wrongPoints();
        fonts();
        Checks.end();
    }

    private static void widths() {
        for (int widths = 1; widths <= 4; widths++) {
            FontMaker maker = new FontMaker().add(new byte[0], FontMaker.triangle(), new byte[0], new byte[0]);
            maker.widths = widths;
            FontOutlines x = maker.font();
            for (int g = 0; g < 4; g++) {
                int glyph = g;
                int due = 100 + Math.min(g, widths - 1);
                Checks.due("WIDTH of " + g + ", H " + widths, () -> x.measure(glyph, 0), due);
                Checks.due("LEFT of " + g + ", H " + widths, () -> x.measure(glyph, 1), g - 5);
            }
        }
        FontOutlines x = new FontMaker().add(new byte[0], new byte[0])
                .with("hmtx", new Data().u16(65535, 32767, 32768, 32768).done()).font();
        Checks.due("WIDTH has no sign", () -> x.measure(0, 0), 65535);
        Checks.due("LEFT has a sign", () -> x.measure(0, 1), 32767);
        Checks.due("WIDTH has no sign", () -> x.measure(1, 0), 32768);
        Checks.due("LEFT has a sign", () -> x.measure(1, 1), -32768);
    }

    private static FontOutlines three() {
        return new FontMaker().add(new byte[0], FontMaker.simple(new int[] {0, 3}, new int[] {-7, 900, 1},
                new int[] {-70, 950, 0}, new int[] {-3, 1000, 1}, new int[] {-9, 20, 1}), FontMaker.triangle()).font();
    }

    private static void measures() {
        int[][] due = {{100, -5, 0, 0, 0, 0, 0, 0}, {101, -4, 4, 2, -70, 20, -3, 1000},
            {102, -3, 3, 1, 0, 0, 100, 80}};
        FontOutlines x = three();
        for (int what = 0; what < 8; what++) {
            for (int g = 0; g < 3; g++) {
                int glyph = g;
                int which = what;
                Checks.due("measure(" + g + ", " + what + ")", () -> x.measure(glyph, which), due[g][what]);
            }
        }
    }

    /** One point, and none after it. */
    private static void leastAndGreatest() {
        FontOutlines x = new FontMaker().add(FontMaker.simple(new int[] {0}, new int[] {-7, 9, 1}), new byte[0],
                FontMaker.simple(new int[] {2}, new int[] {5, 6, 1}, new int[] {5, 6, 1}, new int[] {4, 7, 1})).font();
        int[][] due = {{-7, 9, -7, 9}, {0, 0, 0, 0}, {4, 6, 5, 7}};
        for (int g = 0; g < 3; g++) {
            for (int what = 4; what < 8; what++) {
                int glyph = g;
                int which = what;
                Checks.due("measure(" + g + ", " + what + ")", () -> x.measure(glyph, which), due[g][what - 4]);
            }
        }
    }

    private static void wrongMeasures() {
        FontOutlines x = three();
        int[][] wrong = {{3, 0}, {-1, 0}, {0, 8}, {0, -1}, {256, 0}, {Integer.MAX_VALUE, 0}, {Integer.MIN_VALUE, 0},
            {1, Integer.MAX_VALUE}, {1, Integer.MIN_VALUE}, {-1, -1}};
        for (int[] row : wrong) {
            Checks.dueThrow("measure(" + row[0] + ", " + row[1] + ")", () -> x.measure(row[0], row[1]), Checks.INDEX);
        }
        Checks.due("measure(1, 2) after all", () -> x.measure(1, 2), 4);
    }

    private static void points() {
        FontOutlines x = three();
        int[][] due = {{-7, 900, 1, 0}, {-70, 950, 0, 1}, {-3, 1000, 1, 1}, {-9, 20, 1, 1}};
        for (int i = 0; i < due.length; i++) {
            for (int what = 0; what < 4; what++) {
                int number = i;
                int which = what;
                Checks.due("point(1, " + i + ", " + what + ")", () -> x.point(1, number, which), due[i][what]);
                Checks.due("another glyph between", () -> x.point(2, 1, 0), 100);
            }
        }
    }

    private static void wrongPoints() {
        FontOutlines x = three();
        int[][] wrong = {{3, 0, 0}, {-1, 0, 0}, {1, 4, 0}, {1, -1, 0}, {1, 0, 4}, {1, 0, -1}, {0, 0, 0},
            {2, 3, 0}, {1, Integer.MAX_VALUE, 0}, {1, Integer.MIN_VALUE, 0}, {Integer.MAX_VALUE, 0, 0},
            {Integer.MIN_VALUE, 0, 0}, {1, 0, Integer.MAX_VALUE}, {1, 0, Integer.MIN_VALUE}, {1, 511, 0},
            {1, 512, 0}};
        for (int[] row : wrong) {
            Checks.dueThrow("point(" + row[0] + ", " + row[1] + ", " + row[2] + ")",
                    () -> x.point(row[0], row[1], row[2]), Checks.INDEX);
        }
        Checks.due("point(1, 3, 1) after all", () -> x.point(1, 3, 1), 20);
    }

    private static void fonts() {
        int[] ems = {16, 1000, 16384};
        for (int em : ems) {
            FontMaker maker = new FontMaker().add(new byte[0]);
            maker.em = em;
            Checks.due("EM", () -> maker.font().font(0), em);
            Checks.due("a map of 3, 1", () -> maker.font().font(1), 0);
            maker.withMap(FontMaker.groupMap(new long[] {65, 66, 0}));
            Checks.due("a map of 3, 10", () -> maker.font().font(1), 1);
        }
        FontOutlines x = new FontMaker().add(new byte[0]).font();
        int[] wrong = {2, -1, Integer.MAX_VALUE, Integer.MIN_VALUE};
        for (int what : wrong) {
            Checks.dueThrow("font(" + what + ")", () -> x.font(what), Checks.INDEX);
        }
    }
}
