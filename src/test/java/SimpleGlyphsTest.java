import java.util.Arrays;

/** Terms, GLYPHS: glyphs without parts. */
final class SimpleGlyphsTest {
    private static final int FONT = 1;
    private static final int ALL_SAME = 0x30;

    public static void main(String[] args) {
        noData();
        whatIsReadLiesInTheData();
        kinds();
        contoursRise();
        pointsOfContours();
        mostPoints();
        noContours();
        passedOver();
        repeatedFlags();
        noMoreThanThereAre();
        shortSteps();
        shortStepsTakenAway();
        noSteps();
        wideSteps();
        zeroBeforeTheFirst();
        on();
        coordinates();
        Checks.end();
    }

    private static FontMaker one(byte[] glyph) {
        FontMaker maker = new FontMaker().add(glyph);
        maker.longPlaces = true;
        return maker;
    }

    private static void loads(String told, byte[] glyph, int want) {
        Checks.due(told, () -> one(glyph).loaded(), want);
    }

    private static void loads(String told, Data glyph, int want) {
        loads(told, glyph.done(), want);
    }

    private static Data begin(int kind) {
        return new Data().u16(kind).zeros(8);
    }

    /** What is told of each point of a font's only glyph. */
    private static void points(Data glyph, int what, int... due) {
        FontOutlines x = one(glyph.done()).font();
        Checks.due("how many points", () -> x.measure(0, 2), due.length);
        for (int i = 0; i < due.length; i++) {
            int number = i;
            Checks.due("point(0, " + i + ", " + what + ")", () -> x.point(0, number, what), due[i]);
        }
    }

    private static void noData() {
        Checks.sentence("No DATA: no points.");
        loads("no bytes", new byte[0], FONT);
        FontOutlines x = new FontMaker().add(new byte[0], FontMaker.heap(1), new byte[0]).font();
        int[] due = {0, 1, 0};
        for (int g = 0; g < due.length; g++) {
            int glyph = g;
            Checks.due("points of " + g, () -> x.measure(glyph, 2), due[g]);
            Checks.due("contours of " + g, () -> x.measure(glyph, 3), due[g]);
        }
        loads("one byte", new byte[1], FontOutlines.GLYPHS);
        loads("one byte, 255", new byte[] {-1}, FontOutlines.GLYPHS);
    }

    private static void whatIsReadLiesInTheData() {
        Checks.sentence("what is read must lie in it.");
        byte[] whole = FontMaker.triangle();
        for (int length = 1; length < whole.length; length++) {
            loads("only " + length + " bytes of a glyph", Arrays.copyOf(whole, length), FontOutlines.GLYPHS);
        }
        loads("all bytes", whole, FONT);
        loads("more bytes", Arrays.copyOf(whole, whole.length + 5), FONT);
        FontMaker two = new FontMaker().add(Arrays.copyOf(whole, whole.length - 2), whole);
        Checks.due("what lacks lies in the next glyph's data", () -> two.loaded(), FontOutlines.GLYPHS);
        byte[] narrow = begin(1).u16(1, 0).u8(0x06, 0x37, 1, 2, 3, 4).done();
        loads("steps of U8", narrow, FONT);
        loads("the last step lacks", Arrays.copyOf(narrow, narrow.length - 1), FontOutlines.GLYPHS);
        loads("the last steps lack", Arrays.copyOf(narrow, narrow.length - 2), FontOutlines.GLYPHS);
        byte[] half = begin(1).u16(0, 0).u8(0x10, 1, 2).done();
        loads("a step of S16", half, FONT);
        loads("half a step of S16", Arrays.copyOf(half, half.length - 1), FontOutlines.GLYPHS);
        byte[] halfX = begin(1).u16(0, 0).u8(0x20, 1, 2).done();
        loads("a step of S16 for x", halfX, FONT);
        loads("half a step of S16 for x", Arrays.copyOf(halfX, halfX.length - 1), FontOutlines.GLYPHS);
        loads("flags lack", begin(1).u16(2, 0).u8(ALL_SAME, ALL_SAME), FontOutlines.GLYPHS);
        loads("flags are there", begin(1).u16(2, 0).u8(ALL_SAME, ALL_SAME, ALL_SAME), FONT);
        loads("ends of contours lack", begin(2).u16(0), FontOutlines.GLYPHS);
    }

    private static void kinds() {
        Checks.sentence("If C is 0 .. 32");
        for (int many = 0; many <= 34; many++) {
            Data data = begin(many);
            for (int k = 0; k < many; k++) {
                data.u16(k);
            }
            data.u16(0);
            if (many > 0) {
                data.u8(ALL_SAME | 8, many - 1);
            }
            loads("C is " + many, data, many <= 32 ? FONT : FontOutlines.GLYPHS);
        }
        Checks.sentence("Other C can't be.");
        int[] others = {-2, -3, -32, -128, -32768, 33, 256, 32767};
        for (int kind : others) {
            loads("C is " + kind, begin(kind).u16(0).zeros(600), FontOutlines.GLYPHS);
        }
        loads("C is 0", begin(0).u16(0).zeros(600), FONT);
        loads("other bytes up to 10 are free", new Data().u16(1).u32(-1, -1).u16(0, 0).u8(ALL_SAME), FONT);
    }

    private static Data ends(int... ends) {
        return begin(ends.length).u16(ends).u16(0).u8(ALL_SAME | 8, ends[ends.length - 1]).zeros(600);
    }

    private static void contoursRise() {
        Checks.sentence("from 10 on C U16s, rising");
        loads("0, 1", ends(0, 1), FONT);
        loads("1, 1", ends(1, 1), FontOutlines.GLYPHS);
        loads("1, 0", ends(1, 0), FontOutlines.GLYPHS);
        loads("0, 0", ends(0, 0), FontOutlines.GLYPHS);
        loads("0, 1, 2", ends(0, 1, 2), FONT);
        loads("0, 2, 2", ends(0, 2, 2), FontOutlines.GLYPHS);
        loads("0, 2, 1", ends(0, 2, 1), FontOutlines.GLYPHS);
        loads("9, 5, 20", ends(9, 5, 20), FontOutlines.GLYPHS);
        loads("65535, 0", ends(65535, 0), FontOutlines.GLYPHS);
        loads("254, 255", ends(254, 255), FONT);
    }

    private static void pointsOfContours() {
        Checks.sentence("the number of the last point of each contour (with at least one point each");
        points(begin(3).u16(0, 3, 5, 0).u8(ALL_SAME | 8, 5), 3, 0, 1, 1, 1, 2, 2);
        points(begin(3).u16(0, 1, 2, 0).u8(ALL_SAME | 8, 2), 3, 0, 1, 2);
        points(begin(1).u16(0, 0).u8(ALL_SAME), 3, 0);
        FontOutlines x = one(begin(3).u16(0, 3, 5, 0).u8(ALL_SAME | 8, 5).done()).font();
        Checks.due("three contours", () -> x.measure(0, 3), 3);
        Checks.dueThrow("no seventh point", () -> x.point(0, 6, 3), Checks.INDEX);
        Data most = begin(32);
        int[] due = new int[256];
        for (int k = 0; k < 32; k++) {
            most.u16(8 * k + 7);
            Arrays.fill(due, 8 * k, 8 * k + 8, k);
        }
        points(most.u16(0).u8(ALL_SAME | 8, 255), 3, due);
    }

    private static void mostPoints() {
        Checks.sentence("256 points at most");
        loads("255 points", FontMaker.heap(255), FONT);
        loads("256 points", FontMaker.heap(256), FONT);
        loads("257 points", FontMaker.heap(257), FontOutlines.GLYPHS);
        loads("258 points", FontMaker.heap(258), FontOutlines.GLYPHS);
        loads("512 points", FontMaker.heap(512), FontOutlines.GLYPHS);
        loads("513 points", FontMaker.heap(513), FontOutlines.GLYPHS);
        loads("65536 points", begin(1).u16(65535, 0).zeros(600), FontOutlines.GLYPHS);
        loads("257 points in two contours", begin(2).u16(128, 256, 0).u8(ALL_SAME | 8, 255, ALL_SAME),
                FontOutlines.GLYPHS);
        loads("256 points in two contours", begin(2).u16(128, 255, 0).u8(ALL_SAME | 8, 255), FONT);
        Checks.due("256 points", () -> one(FontMaker.heap(256)).font().measure(0, 2), 256);
        Checks.due("the last of 256", () -> one(FontMaker.heap(256)).font().point(0, 255, 2), 1);
        Checks.dueThrow("none behind", () -> one(FontMaker.heap(256)).font().point(0, 256, 2), Checks.INDEX);
    }

    private static void noContours() {
        Checks.sentence("none if C is 0)");
        loads("C is 0", begin(0).u16(0), FONT);
        FontOutlines x = new FontMaker().add(begin(0).u16(0).done(), FontMaker.heap(2)).font();
        Checks.due("points if C is 0", () -> x.measure(0, 2), 0);
        Checks.due("contours if C is 0", () -> x.measure(0, 3), 0);
        Checks.dueThrow("a point if C is 0", () -> x.point(0, 0, 0), Checks.INDEX);
        Checks.due("points if C is 1", () -> x.measure(1, 2), 2);
    }

    private static void passedOver() {
        Checks.sentence("U16 of bytes that are passed over (they lie in the DATA, too)");
        loads("C is 0, nothing behind", begin(0), FontOutlines.GLYPHS);
        loads("C is 0, half a number behind", begin(0).u8(0), FontOutlines.GLYPHS);
        loads("C is 0, none are passed over", begin(0).u16(0), FONT);
        loads("C is 0, one is passed over", begin(0).u16(1).u8(9), FONT);
        loads("C is 0, one lacks", begin(0).u16(1), FontOutlines.GLYPHS);
        loads("C is 0, 300 are passed over", begin(0).u16(300).zeros(300), FONT);
        loads("C is 0, one of 300 lacks", begin(0).u16(300).zeros(299), FontOutlines.GLYPHS);
        loads("65535 to be passed over", begin(0).u16(65535).zeros(100), FontOutlines.GLYPHS);
        loads("32768 to be passed over", begin(0).u16(32768).zeros(100), FontOutlines.GLYPHS);
        loads("passed over, then a flag", begin(1).u16(0, 5).u8(1, 2, 3, 4, 5).u8(ALL_SAME), FONT);
        loads("passed over, but no flag", begin(1).u16(0, 5).u8(1, 2, 3, 4, ALL_SAME), FontOutlines.GLYPHS);
        points(begin(1).u16(0, 2).u8(9, 9).u8(0x37, 7, 8), 0, 7);
        points(begin(1).u16(0, 2).u8(9, 9).u8(0x37, 7, 8), 1, 8);
        FontMaker two = new FontMaker().add(begin(0).u16(8).done(), FontMaker.triangle());
        Checks.due("they lie in the next glyph's data", () -> two.loaded(), FontOutlines.GLYPHS);
    }

    private static void repeatedFlags() {
        Checks.sentence("a flag with bit 3 holds also for as many points as the U8 behind it says");
        points(begin(1).u16(5, 0).u8(0x39, 1, 0x30, 0x38, 1, 0xf1), 2, 1, 1, 0, 0, 0, 1);
        points(begin(1).u16(2, 0).u8(0x39, 0, 0x38, 0, 0x31), 2, 1, 0, 1);
        points(begin(1).u16(2, 0).u8(0x31, 0x38, 1), 2, 1, 0, 0);
        points(begin(1).u16(3, 0).u8(0x3b, 2, 0x30, 5, 6, 7), 0, 5, 11, 18, 18);
        points(begin(1).u16(3, 0).u8(0x3d, 2, 0x30, 5, 6, 7), 1, 5, 11, 18, 18);
        loads("a flag without its number", begin(1).u16(0, 0).u8(ALL_SAME | 8), FontOutlines.GLYPHS);
        loads("a flag for 0 more", begin(1).u16(0, 0).u8(ALL_SAME | 8, 0), FONT);
        loads("a flag without bit 3 has no number", begin(1).u16(0, 0).u8(ALL_SAME), FONT);
    }

    private static void noMoreThanThereAre() {
        Checks.sentence("no more than there are");
        loads("for too few points", begin(1).u16(4, 0).u8(ALL_SAME | 8, 3), FontOutlines.GLYPHS);
        loads("for all points", begin(1).u16(4, 0).u8(ALL_SAME | 8, 4), FONT);
        loads("for one more", begin(1).u16(4, 0).u8(ALL_SAME | 8, 5), FontOutlines.GLYPHS);
        loads("for one more, and bytes behind", begin(1).u16(4, 0).u8(ALL_SAME | 8, 5).zeros(9), FontOutlines.GLYPHS);
        loads("for 255", begin(1).u16(4, 0).u8(ALL_SAME | 8, 255), FontOutlines.GLYPHS);
        loads("the last point's flag for none", begin(1).u16(1, 0).u8(ALL_SAME, ALL_SAME | 8, 0), FONT);
        loads("the last point's flag for one", begin(1).u16(1, 0).u8(ALL_SAME, ALL_SAME | 8, 1), FontOutlines.GLYPHS);
        loads("256 points of one flag", begin(1).u16(255, 0).u8(ALL_SAME | 8, 255), FONT);
        loads("255 points of it", begin(1).u16(254, 0).u8(ALL_SAME | 8, 255), FontOutlines.GLYPHS);
    }

    private static void shortSteps() {
        Checks.sentence("each differs from the one before (0 before the first) by a U8, if bit 1 (for y 2) is set");
        points(begin(1).u16(3, 0).u8(0x32, 0x32, 0x32, 0x32).u8(0, 1, 255, 128), 0, 0, 1, 256, 384);
        points(begin(1).u16(3, 0).u8(0x34, 0x34, 0x34, 0x34).u8(0, 1, 255, 128), 1, 0, 1, 256, 384);
        points(begin(1).u16(1, 0).u8(0x36, 0x36).u8(1, 2, 3, 4), 0, 1, 3);
        points(begin(1).u16(1, 0).u8(0x36, 0x36).u8(1, 2, 3, 4), 1, 3, 7);
    }

    private static void shortStepsTakenAway() {
        Checks.sentence("which is taken away if bit 4 (for y 5) isn't set");
        points(begin(1).u16(3, 0).u8(0x22, 0x32, 0x22, 0x22).u8(1, 10, 255, 0), 0, -1, 9, -246, -246);
        points(begin(1).u16(3, 0).u8(0x14, 0x34, 0x14, 0x14).u8(1, 10, 255, 0), 1, -1, 9, -246, -246);
        points(begin(1).u16(1, 0).u8(0x16, 0x26).u8(1, 2, 3, 4), 0, 1, -1);
        points(begin(1).u16(1, 0).u8(0x16, 0x26).u8(1, 2, 3, 4), 1, -3, 1);
    }

    private static void noSteps() {
        Checks.sentence("otherwise by 0 if bit 4 (5) is set");
        points(begin(1).u16(2, 0).u8(0x32, 0x30, 0x32).u8(5, 6), 0, 5, 5, 11);
        points(begin(1).u16(2, 0).u8(0x34, 0x30, 0x34).u8(5, 6), 1, 5, 5, 11);
        points(begin(1).u16(1, 0).u8(0x10, 0x20).u16(7, 8), 0, 0, 7);
        points(begin(1).u16(1, 0).u8(0x10, 0x20).u16(7, 8), 1, 8, 8);
    }

    private static void wideSteps() {
        Checks.sentence("else by an S16.");
        points(begin(1).u16(3, 0).u8(0x20, 0x20, 0x20, 0x20).u16(-16384, 32767, -32767, 258), 0,
                -16384, 16383, -16384, -16126);
        points(begin(1).u16(3, 0).u8(0x10, 0x10, 0x10, 0x10).u16(-16384, 32767, -32767, 258), 1,
                -16384, 16383, -16384, -16126);
        Data data = begin(1).u16(5, 0);
        data.u8(0x00, 0x12, 0x02, 0x10, 0x24, 0x04);
        data.u16(-300).u8(255, 5).u16(1000, -1);
        data.u16(500, -600, 300, -7).u8(255, 9);
        points(data, 0, -300, -45, -50, -50, 950, 949);
        points(data, 1, 500, -100, 200, 193, 448, 439);
        loads("a step of -32768 from 16383", begin(1).u16(1, 0).u8(0x20, 0x20).u16(16383, -32768),
                FontOutlines.GLYPHS);
    }

    /** Also of the second glyph that is read, and of y behind x. */
    private static void zeroBeforeTheFirst() {
        Checks.sentence("(0 before the first)");
        byte[] far = begin(1).u16(0, 0).u8(0x00).u16(1000, 2000).done();
        byte[] near = begin(1).u16(0, 0).u8(0x36).u8(1, 2).done();
        byte[] both = FontMaker.composed(FontMaker.part(2 + 32, 0, 0, 0), FontMaker.part(2, 1, 0, 0));
        FontOutlines x = new FontMaker().add(far, near, both).font();
        int[][] due = {{0, 0, 1000, 2000}, {1, 0, 1, 2}, {2, 0, 1000, 2000}, {2, 1, 1, 2}};
        for (int[] row : due) {
            Checks.due("x", () -> x.point(row[0], row[1], 0), row[2]);
            Checks.due("y", () -> x.point(row[0], row[1], 1), row[3]);
        }
    }

    private static void on() {
        Checks.sentence("Bit 0: the point is ON.");
        points(begin(1).u16(3, 0).u8(0x31, 0x30, 0xf0, 0xf1), 2, 1, 0, 0, 1);
        points(begin(1).u16(0, 0).u8(0x36, 7, 8), 2, 0);
        points(begin(1).u16(0, 0).u8(0x37, 7, 8), 2, 1);
    }

    private static byte[] at(int... coordinates) {
        int[][] points = new int[coordinates.length / 2][];
        for (int k = 0; k < points.length; k++) {
            points[k] = new int[] {coordinates[2 * k], coordinates[2 * k + 1], 1};
        }
        return FontMaker.simple(new int[] {points.length - 1}, points);
    }

    private static void coordinates() {
        Checks.sentence("all coordinates are -16384 .. 16383.");
        loads("all edges", at(-16384, -16384, 16383, 16383), FONT);
        loads("x too small", at(-16385, 0), FontOutlines.GLYPHS);
        loads("x too great", at(16384, 0), FontOutlines.GLYPHS);
        loads("y too small", at(0, -16385), FontOutlines.GLYPHS);
        loads("y too great", at(0, 16384), FontOutlines.GLYPHS);
        loads("x too great only on the way", at(0, 0, 16384, 0, 0, 0), FontOutlines.GLYPHS);
        loads("x too small only on the way", at(0, 0, -16385, 0, 0, 0), FontOutlines.GLYPHS);
        loads("y too great only on the way", at(0, 0, 0, 16384, 0, 0), FontOutlines.GLYPHS);
        loads("y too small only on the way", at(0, 0, 0, -16385, 0, 0), FontOutlines.GLYPHS);
        loads("x too great by a U8", begin(1).u16(1, 0).u8(0x20, 0x32).u16(16383).u8(1), FontOutlines.GLYPHS);
        loads("x at the edge by a U8", begin(1).u16(1, 0).u8(0x20, 0x32).u16(16382).u8(1), FONT);
        FontOutlines x = one(at(-16384, 16383, 16383, -16384)).font();
        Checks.due("x at the edge", () -> x.point(0, 1, 0), 16383);
        Checks.due("y at the edge", () -> x.point(0, 1, 1), -16384);
    }
}
