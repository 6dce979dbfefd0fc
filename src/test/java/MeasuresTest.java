/** Promises 8, 9 and 10: measure, point, font. */
final class MeasuresTest {
    public static void main(String[] args) {
        measures();
        leastAndGreatest();
        noPoints();
        noSuchMeasure();
        points();
        noSuchPoint();
        fonts();
        noSuchWhat();
        Checks.end();
    }

    private static FontOutlines three() {
        return new FontMaker().add(new byte[0], FontMaker.simple(new int[] {0, 3}, new int[] {-7, 900, 1},
                new int[] {-70, 950, 0}, new int[] {-3, 1000, 1}, new int[] {-9, 20, 1}), FontMaker.triangle()).font();
    }

    private static void measure(FontOutlines x, int glyph, int... due) {
        for (int what = 0; what < due.length; what++) {
            int which = what;
            Checks.due("measure(" + glyph + ", " + what + ")", () -> x.measure(glyph, which), due[what]);
        }
    }

    private static void measures() {
        Checks.sentence("what = 0 its WIDTH, 1 its LEFT, 2 how many points, 3 how many contours");
        FontOutlines x = three();
        measure(x, 0, 100, -5, 0, 0);
        measure(x, 1, 101, -4, 4, 2);
        measure(x, 2, 102, -3, 3, 1);
        for (int what = 0; what < 8; what++) {
            int[][] due = {{100, -5, 0, 0, 0, 0, 0, 0}, {101, -4, 4, 2, -70, 20, -3, 1000},
                {102, -3, 3, 1, 0, 0, 100, 80}};
            for (int g = 0; g < 3; g++) {
                int glyph = g;
                int which = what;
                Checks.due("measure(" + g + ", " + what + ")", () -> x.measure(glyph, which), due[g][what]);
            }
        }
    }

    private static void leastAndGreatest() {
        Checks.sentence("4 to 7 the least x, the least y, the greatest x, the greatest y of its points");
        int[][][] glyphs = {{{-7, 9}}, {{5, 6}, {5, 6}, {4, 7}}, {{4, 7}, {5, 6}}, {{5, 6}, {4, 7}},
            {{-16384, 16383}, {16383, -16384}}, {{-5, -9}, {-2, -3}}, {{1, 100}, {50, 2}, {99, 50}},
            {{50, 50}, {1, 99}, {2, 3}}};
        int[][] due = {{-7, 9, -7, 9}, {4, 6, 5, 7}, {4, 6, 5, 7}, {4, 6, 5, 7}, {-16384, -16384, 16383, 16383},
            {-5, -9, -2, -3}, {1, 2, 99, 100}, {1, 3, 50, 99}};
        FontMaker maker = new FontMaker();
        for (int[][] glyph : glyphs) {
            int[][] points = new int[glyph.length][];
            for (int i = 0; i < points.length; i++) {
                points[i] = new int[] {glyph[i][0], glyph[i][1], 1};
            }
            maker.add(FontMaker.simple(new int[] {points.length - 1}, points));
        }
        FontOutlines x = maker.font();
        for (int g = 0; g < due.length; g++) {
            for (int what = 4; what < 8; what++) {
                int glyph = g;
                int which = what;
                Checks.due("measure(" + g + ", " + what + ")", () -> x.measure(glyph, which), due[g][what - 4]);
            }
        }
    }

    /** One point at an edge, then glyphs that have none: by no DATA, by C = 0, by an empty part. */
    private static void noPoints() {
        Checks.sentence("(0 if it has none)");
        byte[] none = new Data().u16(0).u32(-1, -1).u16(0).done();
        FontOutlines x = new FontMaker().add(FontMaker.simple(new int[] {0}, new int[] {-7, 9, 1}), new byte[0], none,
                FontMaker.composed(FontMaker.part(2, 1, 300, 300))).font();
        for (int g = 1; g < 4; g++) {
            for (int what = 4; what < 8; what++) {
                int glyph = g;
                int which = what;
                Checks.due("one point: " + what, () -> x.measure(0, which), which % 2 == 0 ? -7 : 9);
                Checks.due("measure(" + g + ", " + what + ")", () -> x.measure(glyph, which), 0);
            }
        }
    }

    private static void noSuchMeasure() {
        Checks.sentence("IndexOutOfBounds: there is no such glyph, or what.");
        FontOutlines x = three();
        int[][] wrong = {{3, 0}, {-1, 0}, {0, 8}, {2, 8}, {0, -1}, {2, -1}, {3, 8}, {4, 0}, {256, 0}, {65536, 0},
            {Integer.MAX_VALUE, 0}, {Integer.MIN_VALUE, 0}, {1, 9}, {1, Integer.MAX_VALUE}, {1, Integer.MIN_VALUE},
            {-1, -1}};
        for (int[] row : wrong) {
            Checks.dueThrow("measure(" + row[0] + ", " + row[1] + ")", () -> x.measure(row[0], row[1]), Checks.INDEX);
        }
        Checks.due("measure(0, 0)", () -> x.measure(0, 0), 100);
        Checks.due("measure(2, 7)", () -> x.measure(2, 7), 80);
        FontMaker full = new FontMaker();
        for (int g = 0; g < 256; g++) {
            full.add(new byte[0]);
        }
        FontOutlines y = full.font();
        Checks.due("measure(255, 0) of 256", () -> y.measure(255, 0), 355);
        Checks.dueThrow("measure(256, 0) of 256", () -> y.measure(256, 0), Checks.INDEX);
    }

    private static void points() {
        Checks.sentence("Of point i of a glyph: what = 0 its x, 1 its y, 2 whether it is ON, 3 the number of its "
                + "contour.");
        FontOutlines x = three();
        int[][] due = {{-7, 900, 1, 0}, {-70, 950, 0, 1}, {-3, 1000, 1, 1}, {-9, 20, 1, 1}};
        for (int i = 0; i < due.length; i++) {
            for (int what = 0; what < 4; what++) {
                int number = i;
                int which = what;
                Checks.due("point(1, " + i + ", " + what + ")", () -> x.point(1, number, which), due[i][what]);
                Checks.due("another glyph between", () -> x.point(2, 1, 0), 100);
            }
        }
    }

    private static void noSuchPoint() {
        Checks.sentence("IndexOutOfBounds: there is no such glyph, point, or what.");
        FontOutlines x = three();
        int[][] wrong = {{3, 0, 0}, {-1, 0, 0}, {1, 4, 0}, {1, 5, 0}, {1, -1, 0}, {1, 0, 4}, {1, 3, 4}, {1, 0, -1},
            {0, 0, 0}, {0, -1, 0}, {2, 3, 0}, {1, Integer.MAX_VALUE, 0}, {1, Integer.MIN_VALUE, 0},
            {Integer.MAX_VALUE, 0, 0}, {Integer.MIN_VALUE, 0, 0}, {1, 0, Integer.MAX_VALUE},
            {1, 0, Integer.MIN_VALUE}, {1, 511, 0}, {1, 512, 0}, {3, 4, 4}, {256, 0, 0}};
        for (int[] row : wrong) {
            Checks.dueThrow("point(" + row[0] + ", " + row[1] + ", " + row[2] + ")",
                    () -> x.point(row[0], row[1], row[2]), Checks.INDEX);
        }
        Checks.due("point(1, 0, 0)", () -> x.point(1, 0, 0), -7);
        Checks.due("point(1, 3, 3)", () -> x.point(1, 3, 3), 1);
        Checks.due("point(2, 2, 1)", () -> x.point(2, 2, 1), 80);
    }

    private static void fonts() {
        Checks.sentence("The font's EM (0), or whether its map is one of 3, 10 (1: 1 or 0).");
        int[] ems = {16, 1000, 16384};
        for (int em : ems) {
            FontMaker maker = new FontMaker().add(new byte[0]);
            maker.em = em;
            Checks.due("EM", () -> maker.font().font(0), em);
            Checks.due("a map of 3, 1", () -> maker.font().font(1), 0);
            maker.withMap(FontMaker.groupMap(new long[] {65, 66, 0}));
            Checks.due("EM", () -> maker.font().font(0), em);
            Checks.due("a map of 3, 10", () -> maker.font().font(1), 1);
        }
    }

    private static void noSuchWhat() {
        Checks.sentence("IndexOutOfBounds: another what.");
        FontOutlines x = new FontMaker().add(new byte[0]).font();
        int[] wrong = {2, 3, -1, Integer.MAX_VALUE, Integer.MIN_VALUE};
        for (int what : wrong) {
            Checks.dueThrow("font(" + what + ")", () -> x.font(what), Checks.INDEX);
        }
        Checks.due("font(0)", () -> x.font(0), 1000);
        Checks.due("font(1)", () -> x.font(1), 0);
    }
}
