import java.util.Arrays;

/** Terms, GLYPHS: glyphs with PARTS. */
final class PartsTest {
    private static final int MOVED = 2;
    private static final int ONE_FACTOR = 8;
    private static final int FOLLOWED = 32;
    private static final int TWO_FACTORS = 64;
    private static final int FOUR_FACTORS = 128;
    private static final int GIVES_WIDTH = 512;
    private static final int MOVE_TURNED = 2048;
    private static final int ONE = 16384;

    public static void main(String[] args) {
        whatIsReadLiesInTheData();
        mostParts();
        glyphBelowN();
        sizesOfNumbers();
        signsOfNumbers();
        atMostOneOfThreeBits();
        factors();
        rangeOfFactors();
        otherBits();
        anotherPartFollows();
        roundedDown();
        movedByPAndQ();
        movesTurned();
        pointOnPoint();
        pointBeforeIsThere();
        pointOfThePartIsThere();
        pointsInTurn();
        contoursNumberedOn();
        deepest();
        mostPartsRead();
        mostPoints();
        coordinates();
        coordinatesBeforeTheMove();
        widths();
        Checks.end();
    }

    /** Glyph 0 is the triangle 0, 0; 100, 0; 50, 80; then these. */
    private static FontMaker with(byte[]... glyphs) {
        FontMaker maker = new FontMaker().add(FontMaker.triangle()).add(glyphs);
        maker.longPlaces = true;
        return maker;
    }

    private static void loads(String told, int want, byte[]... glyphs) {
        Checks.due(told, () -> with(glyphs).loaded(), want);
    }

    private static byte[] composed(byte[]... parts) {
        return FontMaker.composed(parts);
    }

    private static byte[] part(int flags, int glyph, int p, int q, int... factors) {
        return FontMaker.part(flags, glyph, p, q, factors);
    }

    private static byte[] narrow(int flags, int glyph, int p, int q, int... factors) {
        return FontMaker.narrowPart(flags, glyph, p, q, factors);
    }

    private static byte[] at(int x, int y) {
        return FontMaker.simple(new int[] {0}, new int[] {x, y, 1});
    }

    /** The glyph's points, x and y in turn. */
    private static void outline(String told, FontOutlines x, int glyph, int... due) {
        Checks.due(told + ": points", () -> x.measure(glyph, 2), due.length / 2);
        for (int k = 0; k < due.length; k++) {
            int i = k / 2;
            int what = k % 2;
            Checks.due(told + ": point " + i + ", " + what, () -> x.point(glyph, i, what), due[k]);
        }
    }

    private static void outline(String told, byte[] glyph, int... due) {
        outline(told, with(glyph).font(), 1, due);
    }

    /** One point as a part: where it comes to. */
    private static void comes(String told, byte[] point, byte[] part, int x, int y) {
        outline(told, with(point, composed(part)).font(), 2, x, y);
    }

    private static void whatIsReadLiesInTheData() {
        Checks.sentence("what is read must lie in it.");
        byte[] wide = composed(part(MOVED | FOLLOWED | FOUR_FACTORS, 0, 1, 2, ONE, 0, 0, ONE),
                part(MOVED | TWO_FACTORS, 0, 1, 2, ONE, ONE));
        byte[] narrow = composed(narrow(MOVED | ONE_FACTOR, 0, 1, 2, ONE));
        byte[] plain = composed(narrow(MOVED, 0, 0, 0));
        byte[][] all = {wide, narrow, plain};
        for (byte[] whole : all) {
            loads("all bytes", 2, whole);
            loads("more bytes", 2, Arrays.copyOf(whole, whole.length + 3));
            for (int length = 1; length < whole.length; length++) {
                loads("only " + length + " bytes", FontOutlines.GLYPHS, Arrays.copyOf(whole, length));
            }
        }
        loads("no part at all", FontOutlines.GLYPHS, composed());
        FontMaker two = with(Arrays.copyOf(plain, plain.length - 1), plain);
        Checks.due("what lacks lies in the next glyph's data", () -> two.loaded(), FontOutlines.GLYPHS);
    }

    private static byte[] times(int many, int glyph) {
        byte[][] parts = new byte[many][];
        for (int k = 0; k < many; k++) {
            parts[k] = part(MOVED | (k < many - 1 ? FOLLOWED : 0), glyph, 0, 0);
        }
        return composed(parts);
    }

    private static void mostParts() {
        Checks.sentence("If C is -1: from 10 on PARTS, at most 16");
        for (int many = 1; many <= 18; many++) {
            loads(many + " parts", many <= 16 ? 2 : FontOutlines.GLYPHS, times(many, 0));
            FontMaker empty = new FontMaker().add(new byte[0], times(many, 0));
            Checks.due(many + " parts without points", () -> empty.loaded(), many <= 16 ? 2 : FontOutlines.GLYPHS);
        }
        Checks.due("points of 16 parts", () -> with(times(16, 0)).font().measure(1, 2), 48);
    }

    private static void glyphBelowN() {
        Checks.sentence("U16 a glyph below N");
        loads("the first glyph", 2, composed(part(MOVED, 0, 0, 0)));
        loads("the last glyph", 3, composed(part(MOVED, 2, 0, 0)), FontMaker.heap(1));
        loads("N", FontOutlines.GLYPHS, composed(part(MOVED, 2, 0, 0)));
        loads("N + 1", FontOutlines.GLYPHS, composed(part(MOVED, 3, 0, 0)));
        loads("256", FontOutlines.GLYPHS, composed(part(MOVED, 256, 0, 0)));
        loads("32768", FontOutlines.GLYPHS, composed(part(MOVED, 32768, 0, 0)));
        loads("65535", FontOutlines.GLYPHS, composed(part(MOVED, 65535, 0, 0)));
        FontMaker more = with(composed(part(MOVED, 2, 0, 0)));
        more.with("glyf", new Data().all(more.glyf()).all(FontMaker.triangle()).done());
        more.with("loca", new Data().all(more.loca()).u32(more.glyf().length + FontMaker.triangle().length).done());
        Checks.due("N, whose DATA would be there", () -> more.loaded(), FontOutlines.GLYPHS);
        FontMaker full = new FontMaker();
        for (int g = 0; g < 255; g++) {
            full.add(new byte[0]);
        }
        full.add(composed(part(MOVED, 254, 0, 0)));
        Checks.due("254 of 256", () -> full.loaded(), 256);
        full.glyphs.set(0, composed(part(MOVED, 255, 0, 0)));
        Checks.due("255 of 256", () -> full.loaded(), 256);
        full.glyphs.set(0, composed(part(MOVED, 256, 0, 0)));
        Checks.due("256 of 256", () -> full.loaded(), FontOutlines.GLYPHS);
    }

    private static void sizesOfNumbers() {
        Checks.sentence("bit 0: of 16 bits, else of 8");
        comes("16 bits", at(0, 0), part(MOVED, 1, 300, -300), 300, -300);
        comes("16 bits", at(0, 0), part(MOVED, 1, 1, 256), 1, 256);
        comes("8 bits", at(0, 0), narrow(MOVED, 1, 1, 2), 1, 2);
        comes("8 bits", at(0, 0), narrow(MOVED, 1, 100, -100), 100, -100);
        outline("one of each", composed(part(MOVED | FOLLOWED, 0, 1, 2), narrow(MOVED, 0, 3, 4)),
                1, 2, 101, 2, 51, 82, 3, 4, 103, 4, 53, 84);
        outline("one of each", composed(narrow(MOVED | FOLLOWED, 0, 1, 2), part(MOVED, 0, 3, 4)),
                1, 2, 101, 2, 51, 82, 3, 4, 103, 4, 53, 84);
    }

    private static void signsOfNumbers() {
        Checks.sentence("bit 1: with a sign, else without");
        comes("127 and 128", at(0, 0), narrow(MOVED, 1, 127, 128), 127, -128);
        comes("255 and 0", at(0, 0), narrow(MOVED, 1, 255, 0), -1, 0);
        comes("65535", at(0, 0), part(MOVED, 1, 65535, 16383), -1, 16383);
        comes("49152", at(0, 0), part(MOVED, 1, 0xc000, 0xc000), -16384, -16384);
        comes("32767", at(-16384, -16384), part(MOVED, 1, 32767, 32767), 16383, 16383);
        loads("32768", FontOutlines.GLYPHS, at(16383, 16383), composed(part(MOVED, 1, 32768, 0)));
        comes("32769", at(16383, 16383), part(MOVED, 1, 32769, 32769), -16384, -16384);
        FontOutlines heaps = new FontMaker().add(FontMaker.heap(250), FontMaker.heap(1), composed(
                part(MOVED | FOLLOWED, 1, 9, 9), part(MOVED | FOLLOWED, 0, 1, 1), narrow(0, 0, 200, 249))).font();
        Checks.due("points 200 and 249", () -> heaps.point(2, 500, 0), 1);
        FontOutlines first = new FontMaker().add(FontMaker.heap(250), FontMaker.heap(1), composed(
                part(MOVED | FOLLOWED, 1, 9, 9), part(MOVED | FOLLOWED, 0, 1, 1), narrow(0, 0, 0, 128))).font();
        Checks.due("points 0 and 128", () -> first.point(2, 500, 0), 9);
    }

    private static void atMostOneOfThreeBits() {
        Checks.sentence("of bits 3, 6, 7 at most one being set");
        int[] bits = {0, ONE_FACTOR, TWO_FACTORS, FOUR_FACTORS};
        for (int bit : bits) {
            loads("bits " + bit, 2, composed(part(MOVED | bit, 0, 0, 0, ONE, 0, 0, ONE)));
        }
        int[] more = {ONE_FACTOR | TWO_FACTORS, ONE_FACTOR | FOUR_FACTORS, TWO_FACTORS | FOUR_FACTORS,
            ONE_FACTOR | TWO_FACTORS | FOUR_FACTORS};
        for (int flags : more) {
            loads("bits " + flags, FontOutlines.GLYPHS,
                    composed(part(MOVED | flags, 0, 0, 0, ONE, 0, 0, ONE, 0, 0, 0)));
            loads("bits " + flags + " of the second part", FontOutlines.GLYPHS,
                    composed(part(MOVED | FOLLOWED, 0, 0, 0), part(MOVED | flags, 0, 0, 0, ONE, 0, 0, ONE, 0, 0, 0)));
        }
    }

    private static void factors() {
        Checks.sentence("one F (a = d), two (a, d), four (a, b, c, d); without them a = d = 1, b = c = 0");
        outline("none", composed(part(MOVED, 0, 0, 0)), 0, 0, 100, 0, 50, 80);
        outline("half", composed(part(MOVED | ONE_FACTOR, 0, 0, 0, ONE / 2)), 0, 0, 50, 0, 25, 40);
        outline("stretched", composed(part(MOVED | TWO_FACTORS, 0, 0, 0, ONE / 4, ONE + ONE / 2)),
                0, 0, 25, 0, 12, 120);
        outline("a quarter turn", composed(part(MOVED | FOUR_FACTORS, 0, 0, 0, 0, ONE, -ONE, 0)),
                0, 0, 0, 100, -80, 50);
        outline("a, b, c, d each", composed(part(MOVED | FOUR_FACTORS, 0, 0, 0, ONE, ONE / 2, ONE / 4, -ONE)),
                0, 0, 100, 50, 70, -55);
        outline("mirrored", composed(part(MOVED | TWO_FACTORS, 0, 0, 0, -ONE, -ONE / 2)), 0, 0, -100, 0, -50, -40);
        outline("turned the other way", composed(part(MOVED | FOUR_FACTORS, 0, 0, 0, -ONE, -ONE, ONE, -ONE)),
                0, 0, -100, -100, 30, -130);
        outline("the second part has none", composed(part(MOVED | FOLLOWED | FOUR_FACTORS, 0, 0, 0, 0, ONE, -ONE, 0),
                part(MOVED, 0, 0, 0)), 0, 0, 0, 100, -80, 50, 0, 0, 100, 0, 50, 80);
        outline("the second part has one", composed(part(MOVED | FOLLOWED | FOUR_FACTORS, 0, 0, 0, 0, ONE, -ONE, 0),
                part(MOVED | ONE_FACTOR, 0, 0, 0, ONE / 2)), 0, 0, 0, 100, -80, 50, 0, 0, 50, 0, 25, 40);
        outline("8 bits and four", composed(narrow(MOVED | FOUR_FACTORS, 0, 1, 2, 0, ONE, -ONE, 0)),
                1, 2, 1, 102, -79, 52);
    }

    private static void rangeOfFactors() {
        Checks.sentence("F is an S16 in 16384ths.");
        comes("16384", at(100, 80), part(MOVED | ONE_FACTOR, 1, 0, 0, 16384), 100, 80);
        comes("32767", at(16384 / 2, 80), part(MOVED | ONE_FACTOR, 1, 0, 0, 32767), 16383, 159);
        comes("-32768", at(100, -80), part(MOVED | ONE_FACTOR, 1, 0, 0, -32768), -200, 160);
        comes("0", at(100, -80), part(MOVED | ONE_FACTOR, 1, 0, 0, 0), 0, 0);
        comes("1", at(16383, -16384), part(MOVED | ONE_FACTOR, 1, 0, 0, 1), 0, -1);
        comes("-1", at(16383, -16384), part(MOVED | ONE_FACTOR, 1, 0, 0, -1), -1, 1);
        comes("all far apart", at(16383, 16383),
                part(MOVED | FOUR_FACTORS, 1, 0, 0, 32767, -32768, -32768, 32767), -1, -1);
    }

    private static void otherBits() {
        Checks.sentence("each U16 flags");
        int known = 1 | MOVED | ONE_FACTOR | FOLLOWED | TWO_FACTORS | FOUR_FACTORS | GIVES_WIDTH | MOVE_TURNED;
        for (int bit = 1; bit < 65536; bit <<= 1) {
            if ((known & bit) == 0) {
                outline("bit " + bit + " means nothing", composed(part(MOVED | bit, 0, 1, 1)),
                        1, 1, 101, 1, 51, 81);
            }
        }
    }

    private static void anotherPartFollows() {
        Checks.sentence("bit 5: another part follows.");
        byte[] behind = part(MOVED, 0, 5, 6);
        outline("not set, though bytes follow", composed(part(MOVED, 0, 1, 2), behind), 1, 2, 101, 2, 51, 82);
        outline("set", composed(part(MOVED | FOLLOWED, 0, 1, 2), behind), 1, 2, 101, 2, 51, 82, 5, 6, 105, 6, 55, 86);
        loads("set, but nothing follows", FontOutlines.GLYPHS, composed(part(MOVED | FOLLOWED, 0, 1, 2)));
        loads("set, but too little follows", FontOutlines.GLYPHS,
                composed(part(MOVED | FOLLOWED, 0, 1, 2), Arrays.copyOf(behind, behind.length - 1)));
        loads("not set, something wrong follows", 2, composed(part(MOVED, 0, 1, 2), part(MOVED, 9, 5, 6)));
        loads("set, something wrong follows", FontOutlines.GLYPHS,
                composed(part(MOVED | FOLLOWED, 0, 1, 2), part(MOVED, 9, 5, 6)));
    }

    private static void roundedDown() {
        Checks.sentence("A part's point x, y is TURNED to the whole parts (rounded down) of a x + c y, b x + d y.");
        comes("a little above 0", at(1, 1), part(MOVED | ONE_FACTOR, 1, 0, 0, 1), 0, 0);
        comes("a little below 0", at(1, 1), part(MOVED | ONE_FACTOR, 1, 0, 0, -1), -1, -1);
        comes("half of an odd one", at(7, -7), part(MOVED | ONE_FACTOR, 1, 0, 0, ONE / 2), 3, -4);
        comes("half of an even one", at(8, -8), part(MOVED | ONE_FACTOR, 1, 0, 0, ONE / 2), 4, -4);
        comes("just below a whole one", at(100, -100), part(MOVED | ONE_FACTOR, 1, 0, 0, ONE - 1), 99, -100);
        comes("just above a whole one", at(100, -100), part(MOVED | ONE_FACTOR, 1, 0, 0, ONE + 1), 100, -101);
        comes("the sum is rounded, not what is added", at(1, 1),
                part(MOVED | FOUR_FACTORS, 1, 0, 0, ONE / 2, -ONE / 2, ONE / 2, -ONE / 2), 1, -1);
        comes("the sum is a little below 0", at(1, 1),
                part(MOVED | FOUR_FACTORS, 1, 0, 0, ONE / 2, ONE / 2, -ONE / 2 - 1, -ONE / 2), -1, 0);
        comes("rounded before it is moved", at(1, 1), part(MOVED | ONE_FACTOR, 1, 1, -1, ONE / 2), 1, -1);
        FontOutlines twice = with(at(7, -7), composed(part(MOVED | ONE_FACTOR, 1, 0, 0, ONE / 2)),
                composed(part(MOVED | ONE_FACTOR, 2, 0, 0, ONE / 2))).font();
        outline("rounded in each part", twice, 3, 1, -2);
    }

    private static void movedByPAndQ() {
        Checks.sentence("It is moved by (p, q) if bit 1 is set");
        outline("moved", composed(part(MOVED, 0, 300, -300)), 300, -300, 400, -300, 350, -220);
        outline("by nothing", composed(part(MOVED, 0, 0, 0)), 0, 0, 100, 0, 50, 80);
        outline("turned, then moved", composed(part(MOVED | ONE_FACTOR, 0, 11, -11, ONE / 2)),
                11, -11, 61, -11, 36, 29);
        loads("an empty part moved", 3, composed(part(MOVED, 2, 5, 5)), new byte[0]);
        loads("bit 1 isn't set, and no point is there", FontOutlines.GLYPHS, composed(part(0, 0, 0, 0)));
    }

    private static void movesTurned() {
        Checks.sentence("(with bit 11 these are TURNED, too)");
        outline("not turned", composed(part(MOVED | ONE_FACTOR, 0, 11, -11, ONE / 2)), 11, -11, 61, -11, 36, 29);
        outline("turned", composed(part(MOVED | ONE_FACTOR | MOVE_TURNED, 0, 11, -11, ONE / 2)),
                5, -6, 55, -6, 30, 34);
        outline("turned round", composed(part(MOVED | FOUR_FACTORS | MOVE_TURNED, 0, 10, 20, 0, ONE, -ONE, 0)),
                -20, 10, -20, 110, -100, 60);
        outline("move and point are rounded apart", composed(
                part(MOVED | TWO_FACTORS | MOVE_TURNED, 0, 1, 1, ONE / 8, ONE / 32)), 0, 0, 12, 0, 6, 2);
        outline("turned by nothing", composed(part(MOVED | MOVE_TURNED, 0, 10, 20)), 10, 20, 110, 20, 60, 100);
        loads("turned far away", FontOutlines.GLYPHS,
                composed(part(MOVED | FOUR_FACTORS | MOVE_TURNED, 0, -32768, -32768, -32768, 0, -32768, 0)));
        outline("turned from far away", composed(
                part(MOVED | FOUR_FACTORS | MOVE_TURNED, 0, -32768, -32768, -32768, 0, 32767, 0)),
                2, 0, -198, 0, 61, 0);
        byte[] first = part(MOVED | FOLLOWED, 0, 10, 20);
        outline("no numbers of points are", composed(first, part(ONE_FACTOR | MOVE_TURNED, 0, 0, 1, ONE / 2)),
                10, 20, 110, 20, 60, 100, -40, 20, 10, 20, -15, 60);
    }

    private static void pointOnPoint() {
        Checks.sentence("otherwise so that its point q, TURNED, comes to the point p of the parts before");
        byte[] first = part(MOVED | FOLLOWED, 0, 10, 20);
        outline("2 to 1", composed(first, part(0, 0, 1, 2)),
                10, 20, 110, 20, 60, 100, 60, -60, 160, -60, 110, 20);
        outline("0 to 2, narrow", composed(first, narrow(0, 0, 2, 0)),
                10, 20, 110, 20, 60, 100, 60, 100, 160, 100, 110, 180);
        outline("1 to 0, turned", composed(first, part(ONE_FACTOR, 0, 0, 1, ONE / 2)),
                10, 20, 110, 20, 60, 100, -40, 20, 10, 20, -15, 60);
        outline("0 to 5, of the second part", composed(first, part(MOVED | FOLLOWED, 0, 0, 0), part(0, 0, 5, 0)),
                10, 20, 110, 20, 60, 100, 0, 0, 100, 0, 50, 80, 50, 80, 150, 80, 100, 160);
        outline("rounded down, then laid on it", composed(first, part(ONE_FACTOR, 0, 0, 2, ONE / 32)),
                10, 20, 110, 20, 60, 100, 9, 18, 12, 18, 10, 20);
        outline("laid on what was laid on", composed(first, part(FOLLOWED, 0, 1, 0), part(0, 0, 4, 0)),
                10, 20, 110, 20, 60, 100, 110, 20, 210, 20, 160, 100, 210, 20, 310, 20, 260, 100);
        FontOutlines x = with(composed(part(MOVED | FOLLOWED, 0, 5, 5), part(0, 0, 0, 0)),
                composed(part(MOVED | FOLLOWED, 0, 1000, 1000), part(MOVED, 1, 0, 0))).font();
        outline("in a part", x, 2, 1000, 1000, 1100, 1000, 1050, 1080, 5, 5, 105, 5, 55, 85, 5, 5, 105, 5, 55, 85);
        FontOutlines y = with(composed(part(MOVED | FOLLOWED, 0, 5, 5), part(MOVED, 0, 7, 7)),
                composed(part(MOVED | FOLLOWED, 0, 1000, 1000), part(0, 1, 0, 3))).font();
        outline("its point of its own second part", y, 2, 1000, 1000, 1100, 1000, 1050, 1080,
                998, 998, 1098, 998, 1048, 1078, 1000, 1000, 1100, 1000, 1050, 1080);
    }

    private static void pointBeforeIsThere() {
        Checks.sentence("the point p of the parts before (both are there)");
        byte[] first = part(MOVED | FOLLOWED, 0, 10, 20);
        loads("no parts before", FontOutlines.GLYPHS, composed(part(0, 0, 0, 0)));
        loads("the last point before", 2, composed(first, part(0, 0, 2, 0)));
        loads("one behind it", FontOutlines.GLYPHS, composed(first, part(0, 0, 3, 0)));
        loads("the last point of two parts", 2, composed(first, first, part(0, 0, 5, 0)));
        loads("one behind it", FontOutlines.GLYPHS, composed(first, first, part(0, 0, 6, 0)));
        loads("point 32768", FontOutlines.GLYPHS, composed(first, part(0, 0, 32768, 0)));
        loads("point 65535", FontOutlines.GLYPHS, composed(first, part(0, 0, 65535, 0)));
        loads("point 255, narrow", FontOutlines.GLYPHS, composed(first, narrow(0, 0, 255, 0)));
        loads("an empty part before", FontOutlines.GLYPHS, composed(part(MOVED | FOLLOWED, 2, 0, 0), part(0, 0, 0, 0)),
                new byte[0]);
        loads("points before, but round the glyph", FontOutlines.GLYPHS, composed(part(0, 0, 0, 0)),
                composed(part(MOVED | FOLLOWED, 0, 0, 0), part(MOVED, 1, 0, 0)));
        byte[] inner = composed(part(MOVED | FOLLOWED, 0, 0, 0), part(0, 0, 3, 0));
        loads("a point before, counted round the glyph", FontOutlines.GLYPHS,
                composed(part(MOVED | FOLLOWED, 0, 0, 0), part(MOVED, 2, 0, 0)), inner);
    }

    private static void pointOfThePartIsThere() {
        Checks.sentence("its point q, TURNED, comes to the point p of the parts before (both are there)");
        byte[] first = part(MOVED | FOLLOWED, 0, 10, 20);
        loads("its last point", 2, composed(first, part(0, 0, 0, 2)));
        loads("one behind it", FontOutlines.GLYPHS, composed(first, part(0, 0, 0, 3)));
        loads("point 32768", FontOutlines.GLYPHS, composed(first, part(0, 0, 0, 32768)));
        loads("point 65535", FontOutlines.GLYPHS, composed(first, part(0, 0, 0, 65535)));
        loads("point 255, narrow", FontOutlines.GLYPHS, composed(first, narrow(0, 0, 0, 255)));
        loads("an empty part", FontOutlines.GLYPHS, composed(first, part(0, 2, 0, 0)), new byte[0]);
        loads("its last of six", 3, times(2, 0), composed(first, part(0, 1, 0, 5)));
        loads("one behind it", FontOutlines.GLYPHS, times(2, 0), composed(first, part(0, 1, 0, 6)));
    }

    private static void pointsInTurn() {
        Checks.sentence("The parts' points, in turn, are the glyph's");
        byte[] two = FontMaker.simple(new int[] {1}, new int[] {1, 2, 0}, new int[] {3, 4, 1});
        FontOutlines x = with(two, composed(part(MOVED | FOLLOWED, 1, 0, 0), part(MOVED | FOLLOWED, 3, 0, 0),
                part(MOVED | FOLLOWED, 0, 0, 0), part(MOVED, 1, 10, 10)), new byte[0]).font();
        outline("all", x, 2, 1, 2, 3, 4, 0, 0, 100, 0, 50, 80, 11, 12, 13, 14);
        int[] on = {0, 1, 1, 1, 0, 0, 1};
        for (int i = 0; i < on.length; i++) {
            int number = i;
            Checks.due("ON of " + i, () -> x.point(2, number, 2), on[i]);
        }
        Checks.dueThrow("none behind", () -> x.point(2, 7, 0), Checks.INDEX);
        Checks.due("least x", () -> x.measure(2, 4), 0);
        Checks.due("greatest y", () -> x.measure(2, 7), 80);
        FontMaker empty = with(composed(part(MOVED, 2, 300, 300)), new byte[0]);
        Checks.due("parts without points", () -> empty.font().measure(1, 2), 0);
        Checks.due("their least x", () -> empty.font().measure(1, 4), 0);
    }

    private static void contoursNumberedOn() {
        Checks.sentence("their contours numbered on.");
        byte[] two = FontMaker.simple(new int[] {0, 2}, new int[] {1, 1, 0}, new int[] {2, 2, 1}, new int[] {3, 3, 0});
        FontOutlines x = with(two, composed(part(MOVED | FOLLOWED, 1, 0, 0), part(MOVED | FOLLOWED, 0, 0, 0),
                part(MOVED | FOLLOWED, 3, 0, 0), part(MOVED, 1, 0, 0)), new byte[0],
                composed(part(MOVED | FOLLOWED, 0, 0, 0), part(MOVED, 2, 0, 0))).font();
        int[] contours = {0, 1, 1, 2, 2, 2, 3, 4, 4};
        for (int i = 0; i < contours.length; i++) {
            int number = i;
            Checks.due("contour of " + i, () -> x.point(2, number, 3), contours[i]);
            Checks.due("contour in a part of " + i, () -> x.point(4, number + 3, 3), contours[i] + 1);
        }
        Checks.due("contours", () -> x.measure(2, 3), 5);
        Checks.due("contours round it", () -> x.measure(4, 3), 6);
        Checks.due("contours of the part itself", () -> x.measure(1, 3), 2);
    }

    private static void deepest() {
        Checks.sentence("Parts lie in one another at most 6 deep (a glyph without parts being 1).");
        byte[][] chain = new byte[7][];
        for (int k = 0; k < chain.length; k++) {
            chain[k] = composed(part(MOVED, k, 1, 10));
        }
        for (int composed = 0; composed <= 7; composed++) {
            byte[][] some = Arrays.copyOf(chain, composed);
            int due = composed <= 5 ? composed + 1 : FontOutlines.GLYPHS;
            loads(composed + 1 + " deep", due, some);
            FontMaker empty = new FontMaker().add(new byte[0]).add(some);
            Checks.due(composed + 1 + " deep, nothing in it", () -> empty.loaded(), due);
        }
        outline("6 deep", with(Arrays.copyOf(chain, 5)).font(), 5, 5, 50, 105, 50, 55, 130);
        loads("itself", FontOutlines.GLYPHS, composed(part(MOVED, 1, 0, 0)));
        loads("round and round", FontOutlines.GLYPHS, composed(part(MOVED, 2, 0, 0)), composed(part(MOVED, 1, 0, 0)));
        byte[] shallow = part(MOVED, 0, 0, 0);
        byte[] alsoShallow = part(MOVED | FOLLOWED, 0, 0, 0);
        loads("7 deep in the first part", FontOutlines.GLYPHS, chain[0], chain[1], chain[2], chain[3], chain[4],
                composed(part(MOVED | FOLLOWED, 5, 0, 0), shallow));
        loads("7 deep in the last part", FontOutlines.GLYPHS, chain[0], chain[1], chain[2], chain[3], chain[4],
                composed(alsoShallow, part(MOVED, 5, 0, 0)));
        loads("6 deep in all parts", 7, chain[0], chain[1], chain[2], chain[3], chain[4],
                composed(part(MOVED | FOLLOWED, 4, 0, 0), part(MOVED | FOLLOWED, 4, 0, 0), shallow));
    }

    private static void partsRead(String told, int want, byte[]... glyphs) {
        FontMaker maker = new FontMaker().add(new byte[0]).add(glyphs);
        Checks.due(told, () -> maker.loaded(), want);
    }

    private static void mostPartsRead() {
        Checks.sentence("To read a glyph no more than 64 parts are read, those of its parts among them, as often as "
                + "they are read.");
        partsRead("4 and 60", 3, times(15, 0), times(4, 1));
        partsRead("5 and 60", FontOutlines.GLYPHS, times(15, 0), composed(part(MOVED | FOLLOWED, 1, 0, 0),
                part(MOVED | FOLLOWED, 1, 0, 0), part(MOVED | FOLLOWED, 1, 0, 0), part(MOVED | FOLLOWED, 1, 0, 0),
                part(MOVED, 0, 0, 0)));
        partsRead("5 and 60, the first empty", FontOutlines.GLYPHS, times(15, 0), composed(
                part(MOVED | FOLLOWED, 0, 0, 0), part(MOVED | FOLLOWED, 1, 0, 0), part(MOVED | FOLLOWED, 1, 0, 0),
                part(MOVED | FOLLOWED, 1, 0, 0), part(MOVED, 1, 0, 0)));
        partsRead("4 and 64", FontOutlines.GLYPHS, times(16, 0), times(4, 1));
        partsRead("16 and 48", 3, times(3, 0), times(16, 1));
        partsRead("16 and 48, and one round them", FontOutlines.GLYPHS, times(3, 0), times(16, 1), times(1, 2));
        partsRead("15 and 45, and one round them", 4, times(3, 0), times(15, 1), times(1, 2));
        partsRead("2, 4, 8, 16, 32", 6, times(2, 0), times(2, 1), times(2, 2), times(2, 3), times(2, 4));
        byte[] half = part(MOVED | FOLLOWED, 4, 0, 0);
        byte[] single = part(MOVED | FOLLOWED, 0, 0, 0);
        byte[] last = part(MOVED, 0, 0, 0);
        partsRead("twice 31, and 2", 6, times(2, 0), times(2, 1), times(2, 2), times(2, 3),
                composed(half, half, single, last));
        partsRead("twice 31, and 3", FontOutlines.GLYPHS, times(2, 0), times(2, 1), times(2, 2), times(2, 3),
                composed(half, half, single, single, last));
        partsRead("3, and twice 31", FontOutlines.GLYPHS, times(2, 0), times(2, 1), times(2, 2), times(2, 3),
                composed(single, single, single, half, part(MOVED, 4, 0, 0)));
        FontMaker many = new FontMaker().add(new byte[0]);
        for (int k = 0; k < 20; k++) {
            many.add(times(15, 0), times(4, 2 * k + 1));
        }
        Checks.due("each glyph has 64 for itself", () -> many.loaded(), 41);
    }

    private static void mostPoints() {
        Checks.sentence("No glyph has more than 512 points");
        byte[] many = FontMaker.heap(256);
        byte[] fewer = FontMaker.heap(255);
        byte[] one = FontMaker.heap(1);
        byte[] none = new byte[0];
        int[][] parts = {{1, 2}, {1, 1}, {1, 2, 3}, {2, 1, 3}, {3, 1, 2}, {1, 1, 4}, {4, 1, 1}, {1, 1, 3}, {1, 3, 1},
            {3, 1, 1}, {1, 2, 3, 3}, {1, 1, 1}, {2, 2, 3, 3}, {2, 2, 3, 3, 3}};
        int[] points = {511, 512, 512, 512, 512, 512, 512, 513, 513, 513, 513, 768, 512, 513};
        for (int k = 0; k < parts.length; k++) {
            byte[][] rows = new byte[parts[k].length][];
            for (int p = 0; p < rows.length; p++) {
                rows[p] = part(MOVED | (p < rows.length - 1 ? FOLLOWED : 0), parts[k][p], 0, 0);
            }
            FontMaker maker = with(many, fewer, one, none, composed(rows));
            Checks.due(points[k] + " points", () -> maker.loaded(), points[k] <= 512 ? 6 : FontOutlines.GLYPHS);
            if (points[k] <= 512) {
                int due = points[k];
                Checks.due("how many points", () -> maker.font().measure(5, 2), due);
            }
        }
        loads("512 in parts of parts", 5, many, times(2, 1), times(1, 2), times(1, 3));
        loads("1024 in parts of parts", FontOutlines.GLYPHS, many, times(2, 1), times(2, 2));
        FontOutlines x = with(many, times(2, 1)).font();
        Checks.due("the last of 512", () -> x.point(2, 511, 3), 1);
        Checks.dueThrow("none behind", () -> x.point(2, 512, 3), Checks.INDEX);
    }

    private static void coordinates() {
        Checks.sentence("all coordinates are -16384 .. 16383.");
        byte[] far = FontMaker.simple(new int[] {1}, new int[] {-16384, -16384, 1}, new int[] {16383, 16383, 1});
        loads("not moved", 3, far, composed(part(MOVED, 1, 0, 0)));
        loads("x moved too far", FontOutlines.GLYPHS, far, composed(part(MOVED, 1, 1, 0)));
        loads("x moved too far back", FontOutlines.GLYPHS, far, composed(part(MOVED, 1, -1, 0)));
        loads("y moved too far", FontOutlines.GLYPHS, far, composed(part(MOVED, 1, 0, 1)));
        loads("y moved too far back", FontOutlines.GLYPHS, far, composed(part(MOVED, 1, 0, -1)));
        loads("turned too far", FontOutlines.GLYPHS, far, composed(part(MOVED | ONE_FACTOR, 1, 0, 0, -ONE)));
        comes("turned to the edge", at(-16383, -16383), part(MOVED | ONE_FACTOR, 1, 0, 0, -ONE), 16383, 16383);
        comes("moved to the edge", at(-16383, 16382), part(MOVED, 1, -1, 1), -16384, 16383);
        loads("moved beyond in a part, and back", FontOutlines.GLYPHS, at(10000, 0),
                composed(part(MOVED, 1, 10000, 0)), composed(part(MOVED, 2, -10000, 0)));
        loads("laid on a point too far", FontOutlines.GLYPHS, at(16383, 0), at(0, 0),
                FontMaker.simple(new int[] {1}, new int[] {0, 0, 1}, new int[] {1, 0, 1}),
                composed(part(MOVED | FOLLOWED, 1, 0, 0), part(0, 3, 0, 0)));
        loads("laid on a point at the edge", 5, at(16383, 0), at(0, 0),
                FontMaker.simple(new int[] {1}, new int[] {0, 0, 1}, new int[] {1, 0, 1}),
                composed(part(MOVED | FOLLOWED, 1, 0, 0), part(0, 3, 0, 1)));
    }

    /** Read most plainly: a part's points that are TURNED, but not yet moved, are no glyph's. */
    private static void coordinatesBeforeTheMove() {
        Checks.sentence("No glyph has more than 512 points; all coordinates are -16384 .. 16383.");
        comes("turned beyond, but moved back", at(10000, 0), part(MOVED | ONE_FACTOR, 1, -20000, 0, 32767), -1, 0);
        FontOutlines y = with(at(10000, 0), composed(part(MOVED | FOLLOWED, 0, 0, 0),
                part(ONE_FACTOR, 1, 2, 0, 32767))).font();
        Checks.due("turned beyond, but laid on a point", () -> y.point(2, 3, 0), 50);
        loads("turned beyond, and left there", FontOutlines.GLYPHS, at(10000, 0),
                composed(part(MOVED | ONE_FACTOR, 1, 0, 0, 32767)));
    }

    private static void width(FontOutlines x, int glyph, int giver) {
        Checks.due("WIDTH of " + glyph, () -> x.measure(glyph, 0), 100 + giver);
        Checks.due("LEFT of " + glyph, () -> x.measure(glyph, 1), giver - 5);
    }

    private static void widths() {
        Checks.sentence("A glyph with parts of which some have bit 9 set has WIDTH and LEFT of the last such part (as "
                + "that has them).");
        FontOutlines x = with(FontMaker.heap(1),
                composed(part(MOVED | FOLLOWED, 0, 0, 0), part(MOVED, 1, 0, 0)),
                composed(part(MOVED | FOLLOWED | GIVES_WIDTH, 0, 0, 0), part(MOVED, 1, 0, 0)),
                composed(part(MOVED | FOLLOWED | GIVES_WIDTH, 0, 0, 0), part(MOVED | GIVES_WIDTH, 1, 0, 0)),
                composed(part(MOVED | FOLLOWED | GIVES_WIDTH, 4, 0, 0), part(MOVED, 3, 0, 0)),
                composed(part(MOVED | GIVES_WIDTH, 2, 0, 0)),
                composed(part(MOVED, 4, 0, 0)),
                composed(part(MOVED | GIVES_WIDTH, 9, 0, 0)),
                new byte[0]).font();
        int[] givers = {0, 1, 2, 0, 1, 1, 2, 7, 9, 9};
        for (int g = 0; g < givers.length; g++) {
            width(x, g, givers[g]);
        }
        FontMaker narrow = with(new byte[0], new byte[0], composed(part(MOVED | GIVES_WIDTH, 2, 0, 0)),
                composed(part(MOVED | GIVES_WIDTH, 0, 0, 0)));
        narrow.widths = 2;
        FontOutlines y = narrow.font();
        Checks.due("WIDTH of a part from H on", () -> y.measure(3, 0), 101);
        Checks.due("LEFT of a part from H on", () -> y.measure(3, 1), -3);
        Checks.due("WIDTH of a part below H", () -> y.measure(4, 0), 100);
        Checks.due("LEFT of a part below H", () -> y.measure(4, 1), -5);
    }
}
