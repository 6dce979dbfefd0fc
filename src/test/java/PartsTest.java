import java.util.Arrays;

/** Promises 6, 8 and 9: glyphs with parts. */
final class PartsTest {
    private static final int MOVED = 2;
    private static final int ONE_FACTOR = 8;
    private static final int FOLLOWED = 32;
    private static final int TWO_FACTORS = 64;
    private static final int FOUR_FACTORS = 128;
    private static final int GIVES_WIDTH = 512;
    private static final int MOVE_TURNED = 2048;
    private static final int ONE = 16384;

    public static void main(String[] args) {
        shortData();
        forms();
        moves();
        turns();
        turnedMoves();
        pointOnPoint();
        points();
        counts();
        depth();
        partsRead();
        coordinates();
        widths();
        Checks.end();
    }

    /** Glyph 0 is the triangle 0, 0; 100, 0; 50, 80; then these. */
    private static FontMaker with(byte[]... glyphs) {
        FontMaker maker = new FontMaker().add(FontMaker.triangle()).add(glyphs);
        maker.longPlaces = true;
        return maker;
    }

    private static void loads(String told, int want, byte[]... glyphs) {
        Checks.due(told, () -> with(glyphs).loaded(), want);
    }

    private static byte[] composed(byte[]... parts) {
        return FontMaker.composed(parts);
    }

    private static byte[] part(int flags, int glyph, int p, int q, int... factors) {
        return FontMaker.part(flags, glyph, p, q, factors);
    }

    /** The glyph's points, x and y in turn. */
    private static void outline(String told, FontOutlines x, int glyph, int... due) {
        Checks.due(told + ": points", () -> x.measure(glyph, 2), due.length / 2);
        for (int k = 0; k < due.length; k++) {
            int i = k / 2;
            int what = k % 2;
            Checks.due(told + ": point " + i + ", " + what, () -> x.point(glyph, i, what), due[k]);
        }
    }

    private static void outline(String told, byte[] glyph, int... due) {
        outline(told, with(glyph).font(), 1, due);
    }

    private static void shortData() {
        byte[] whole = composed(part(MOVED | FOLLOWED | FOUR_FACTORS, 0, 1, 2, ONE, 0, 0, ONE),
                part(MOVED | TWO_FACTORS, 0, 1, 2, ONE, ONE));
        loads("all bytes", 2, whole);
        loads("more bytes", 2, Arrays.copyOf(whole, whole.length + 3));
        for (int length = 1; length < whole.length; length++) {
            loads("only " + length + " bytes", FontOutlines.GLYPHS, Arrays.copyOf(whole, length));
        }
        byte[] narrow = composed(FontMaker.narrowPart(MOVED | ONE_FACTOR, 0, 1, 2, ONE));
        for (int length = 1; length <= narrow.length; length++) {
            loads("only " + length + " bytes, narrow", length == narrow.length ? 2 : FontOutlines.GLYPHS,
                    Arrays.copyOf(narrow, length));
        }
    }

    private static void forms() {
        loads("a glyph that is not there", FontOutlines.GLYPHS, composed(part(MOVED, 2, 0, 0)));
        FontMaker more = with(composed(part(MOVED, 2, 0, 0)));
        more.with("glyf", new Data().all(more.glyf()).all(FontMaker.triangle()).done());
        int behind = more.glyf().length;
        more.with("loca", new Data().all(more.loca()).u32(behind + FontMaker.triangle().length).done());
        Checks.due("a glyph behind the last", () -> more.loaded(), FontOutlines.GLYPHS);
        loads("a glyph far away", FontOutlines.GLYPHS, composed(part(MOVED, 65535, 0, 0)));
        loads("the last glyph", 3, composed(part(MOVED, 2, 0, 0)), FontMaker.heap(1));
        loads("itself", FontOutlines.GLYPHS, composed(part(MOVED, 1, 0, 0)));
        int[] twice = {ONE_FACTOR | TWO_FACTORS, ONE_FACTOR | FOUR_FACTORS, TWO_FACTORS | FOUR_FACTORS,
            ONE_FACTOR | TWO_FACTORS | FOUR_FACTORS};
        for (int flags : twice) {
            loads("factors twice " + flags, FontOutlines.GLYPHS,
                    composed(part(MOVED | flags, 0, 0, 0, ONE, 0, 0, ONE, 0, 0, 0)));
        }
        int others = 0xffff & ~(1 | MOVED | ONE_FACTOR | FOLLOWED | TWO_FACTORS | FOUR_FACTORS | MOVE_TURNED);
        outline("bits that mean nothing here", composed(part(others | MOVED, 0, 1, 1)), 1, 1, 101, 1, 51, 81);
        loads("an empty part", 3, composed(part(MOVED, 2, 5, 5)), new byte[0]);
    }

    private static void moves() {
        outline("wide", composed(part(MOVED, 0, 300, -300)), 300, -300, 400, -300, 350, -220);
        outline("narrow", composed(FontMaker.narrowPart(MOVED, 0, 127, 128)), 127, -128, 227, -128, 177, -48);
        outline("narrow", composed(FontMaker.narrowPart(MOVED, 0, 255, 1)), -1, 1, 99, 1, 49, 81);
        outline("two parts", composed(part(MOVED | FOLLOWED, 0, 1, 2), FontMaker.narrowPart(MOVED, 0, 3, 4)),
                1, 2, 101, 2, 51, 82, 3, 4, 103, 4, 53, 84);
    }

    private static void turns() {
        outline("half", composed(part(MOVED | ONE_FACTOR, 0, 0, 0, ONE / 2)), 0, 0, 50, 0, 25, 40);
        outline("stretched", composed(part(MOVED | TWO_FACTORS, 0, 0, 0, ONE / 4, ONE + ONE / 2)),
                0, 0, 25, 0, 12, 120);
        outline("a quarter turn", composed(part(MOVED | FOUR_FACTORS, 0, 0, 0, 0, ONE, -ONE, 0)),
                0, 0, 0, 100, -80, 50);
        outline("a, b, c, d each", composed(part(MOVED | FOUR_FACTORS, 0, 0, 0, ONE, ONE / 2, ONE / 4, -ONE)),
                0, 0, 100, 50, 70, -55);
        outline("mirrored", composed(part(MOVED | TWO_FACTORS, 0, 0, 0, -ONE, -ONE / 2)),
                0, 0, -100, 0, -50, -40);
        outline("turned the other way", composed(part(MOVED | FOUR_FACTORS, 0, 0, 0, -ONE, -ONE, ONE, -ONE)),
                0, 0, -100, -100, 30, -130);
        outline("rounded down below 0", composed(part(MOVED | ONE_FACTOR, 0, 0, 0, -1)), 0, 0, -1, 0, -1, -1);
        outline("rounded down above 0", composed(part(MOVED | ONE_FACTOR, 0, 0, 0, ONE - 1)),
                0, 0, 99, 0, 49, 79);
        outline("the least factor", composed(part(MOVED | ONE_FACTOR, 0, 0, 0, -32768)),
                0, 0, -200, 0, -100, -160);
        outline("the greatest factor", composed(part(MOVED | ONE_FACTOR, 0, 0, 0, 32767)),
                0, 0, 199, 0, 99, 159);
        outline("the sum is rounded, not its parts", composed(part(MOVED | FOUR_FACTORS, 0, 0, 0,
                ONE / 100 + 1, 0, ONE / 160 + 1, 0)), 0, 0, 1, 0, 1, 0);
    }

    private static void turnedMoves() {
        outline("move not turned", composed(part(MOVED | ONE_FACTOR, 0, 11, -11, ONE / 2)),
                11, -11, 61, -11, 36, 29);
        outline("move turned", composed(part(MOVED | ONE_FACTOR | MOVE_TURNED, 0, 11, -11, ONE / 2)),
                5, -6, 55, -6, 30, 34);
        outline("move turned round", composed(part(MOVED | FOUR_FACTORS | MOVE_TURNED, 0, 10, 20, 0, ONE, -ONE, 0)),
                -20, 10, -20, 110, -100, 60);
        outline("move and point are rounded apart", composed(
                part(MOVED | TWO_FACTORS | MOVE_TURNED, 0, 1, 1, ONE / 8, ONE / 32)), 0, 0, 12, 0, 6, 2);
        outline("move turned by nothing", composed(part(MOVED | MOVE_TURNED, 0, 10, 20)), 10, 20, 110, 20, 60, 100);
        byte[] far = composed(part(MOVED | FOUR_FACTORS | MOVE_TURNED, 0, -32768, -32768, -32768, 0, -32768, 0));
        loads("a move turned far away", FontOutlines.GLYPHS, far);
        outline("a move turned from far away", composed(
                part(MOVED | FOUR_FACTORS | MOVE_TURNED, 0, -32768, -32768, -32768, 0, 32767, 0)),
                2, 0, -198, 0, 61, 0);
    }

    private static void pointOnPoint() {
        byte[] first = part(MOVED | FOLLOWED, 0, 10, 20);
        outline("point on point", composed(first, part(0, 0, 1, 2)),
                10, 20, 110, 20, 60, 100, 60, -60, 160, -60, 110, 20);
        outline("point on point, narrow", composed(first, FontMaker.narrowPart(0, 0, 2, 0)),
                10, 20, 110, 20, 60, 100, 60, 100, 160, 100, 110, 180);
        outline("turned point on point", composed(first, part(ONE_FACTOR, 0, 0, 1, ONE / 2)),
                10, 20, 110, 20, 60, 100, -40, 20, 10, 20, -15, 60);
        outline("bit 11 turns no numbers of points", composed(first, part(ONE_FACTOR | MOVE_TURNED, 0, 0, 1, ONE / 2)),
                10, 20, 110, 20, 60, 100, -40, 20, 10, 20, -15, 60);
        outline("point of the second part before", composed(first, part(MOVED | FOLLOWED, 0, 0, 0), part(0, 0, 5, 0)),
                10, 20, 110, 20, 60, 100, 0, 0, 100, 0, 50, 80, 50, 80, 150, 80, 100, 160);
        loads("no parts before", FontOutlines.GLYPHS, composed(part(0, 0, 0, 0)));
        loads("no such point before", FontOutlines.GLYPHS, composed(first, part(0, 0, 3, 0)));
        loads("no such point of its own", FontOutlines.GLYPHS, composed(first, part(0, 0, 0, 3)));
        loads("far points", FontOutlines.GLYPHS, composed(first, part(0, 0, 65535, 0)));
        loads("far points", FontOutlines.GLYPHS, composed(first, part(0, 0, 0, 65535)));
        loads("far narrow points", FontOutlines.GLYPHS, composed(first, FontMaker.narrowPart(0, 0, 255, 0)));
        loads("an empty part has no point", FontOutlines.GLYPHS, composed(first, part(0, 2, 0, 0)), new byte[0]);
        byte[] inner = composed(part(0, 0, 0, 0));
        loads("points before count in the same glyph only", FontOutlines.GLYPHS, inner,
                composed(part(MOVED | FOLLOWED, 0, 0, 0), part(MOVED, 1, 0, 0)));
        FontOutlines x = with(composed(part(MOVED | FOLLOWED, 0, 5, 5), part(0, 0, 0, 0)),
                composed(part(MOVED | FOLLOWED, 0, 1000, 1000), part(MOVED, 1, 0, 0))).font();
        outline("point on point in a part", x, 2, 1000, 1000, 1100, 1000, 1050, 1080, 5, 5, 105, 5, 55, 85,
                5, 5, 105, 5, 55, 85);
        FontOutlines heaps = new FontMaker().add(FontMaker.heap(250), FontMaker.heap(1), composed(
                part(MOVED | FOLLOWED, 1, 9, 9), part(MOVED | FOLLOWED, 0, 1, 1),
                FontMaker.narrowPart(0, 0, 200, 249))).font();
        Checks.due("narrow numbers have no sign", () -> heaps.point(2, 500, 0), 1);
    }

    private static void points() {
        byte[] two = FontMaker.simple(new int[] {0, 2}, new int[] {1, 1, 0}, new int[] {2, 2, 1}, new int[] {3, 3, 0});
        FontOutlines x = with(two, composed(part(MOVED | FOLLOWED, 1, 0, 0), part(MOVED | FOLLOWED, 0, 0, 0),
                part(MOVED | FOLLOWED, 3, 0, 0), part(MOVED, 1, 0, 0)), new byte[0]).font();
        int[] contours = {0, 1, 1, 2, 2, 2, 3, 4, 4};
        int[] on = {0, 1, 0, 1, 1, 0, 0, 1, 0};
        for (int i = 0; i < contours.length; i++) {
            int number = i;
            Checks.due("contour of " + i, () -> x.point(2, number, 3), contours[i]);
            Checks.due("ON of " + i, () -> x.point(2, number, 2), on[i]);
        }
        Checks.due("contours", () -> x.measure(2, 3), 5);
        Checks.due("least x", () -> x.measure(2, 4), 0);
        Checks.due("greatest y", () -> x.measure(2, 7), 80);
        Checks.due("the part itself", () -> x.measure(1, 3), 2);
        FontMaker empty = with(composed(part(MOVED, 2, 300, 300)), new byte[0]);
        Checks.due("parts without points", () -> empty.font().measure(1, 4), 0);
    }

    private static byte[] times(int many, int glyph) {
        byte[][] parts = new byte[many][];
        for (int k = 0; k < many; k++) {
            parts[k] = part(MOVED | (k < many - 1 ? FOLLOWED : 0), glyph, 0, 0);
        }
        return composed(parts);
    }

    private static void counts() {
        loads("16 parts", 2, times(16, 0));
        loads("17 parts", FontOutlines.GLYPHS, times(17, 0));
        loads("512 points", 4, FontMaker.heap(256), FontMaker.heap(1), times(2, 1));
        loads("513 points", FontOutlines.GLYPHS, FontMaker.heap(256), FontMaker.heap(1),
                composed(part(MOVED | FOLLOWED, 1, 0, 0), part(MOVED | FOLLOWED, 2, 0, 0), part(MOVED, 1, 0, 0)));
        loads("511 points and one more", 5, FontMaker.heap(256), FontMaker.heap(255), FontMaker.heap(1),
                composed(part(MOVED | FOLLOWED, 1, 0, 0), part(MOVED | FOLLOWED, 2, 0, 0), part(MOVED, 3, 0, 0)));
        loads("512 points and an empty part", 4, FontMaker.heap(256),
                composed(part(MOVED | FOLLOWED, 1, 0, 0), part(MOVED | FOLLOWED, 1, 0, 0), part(MOVED, 3, 0, 0)),
                new byte[0]);
        FontOutlines x = with(FontMaker.heap(256), times(2, 1)).font();
        Checks.due("512 points", () -> x.measure(2, 2), 512);
        Checks.due("the last of 512", () -> x.point(2, 511, 3), 1);
        Checks.dueThrow("none behind", () -> x.point(2, 512, 3), Checks.INDEX);
    }

    private static void depth() {
        byte[][] chain = new byte[6][];
        for (int k = 0; k < chain.length; k++) {
            chain[k] = composed(part(MOVED, k, 1, 10));
        }
        loads("6 deep", 6, Arrays.copyOf(chain, 5));
        loads("7 deep", FontOutlines.GLYPHS, chain);
        FontOutlines x = with(Arrays.copyOf(chain, 5)).font();
        outline("6 deep", x, 5, 5, 50, 105, 50, 55, 130);
        loads("round and round", FontOutlines.GLYPHS, composed(part(MOVED, 2, 0, 0)), composed(part(MOVED, 1, 0, 0)));
        FontMaker empty = new FontMaker().add(new byte[0]).add(Arrays.copyOf(chain, 5));
        Checks.due("6 deep, nothing in it", () -> empty.loaded(), 6);
        FontMaker emptyToo = new FontMaker().add(new byte[0]).add(chain);
        Checks.due("7 deep, nothing in it", () -> emptyToo.loaded(), FontOutlines.GLYPHS);
        byte[] back = composed(part(MOVED | FOLLOWED, 5, 0, 0), part(MOVED, 0, 0, 0));
        loads("7 deep in the first part", FontOutlines.GLYPHS, chain[0], chain[1], chain[2], chain[3], chain[4], back);
    }

    private static void partsRead() {
        byte[] empty = new byte[0];
        FontMaker maker = new FontMaker().add(empty, times(15, 0), times(4, 1));
        Checks.due("4 and 60 parts", () -> maker.loaded(), 3);
        FontMaker more = new FontMaker().add(empty, times(15, 0), composed(part(MOVED | FOLLOWED, 0, 0, 0),
                part(MOVED | FOLLOWED, 1, 0, 0), part(MOVED | FOLLOWED, 1, 0, 0), part(MOVED | FOLLOWED, 1, 0, 0),
                part(MOVED, 1, 0, 0)));
        Checks.due("5 and 60 parts", () -> more.loaded(), FontOutlines.GLYPHS);
        FontMaker deep = new FontMaker().add(empty, times(2, 0), times(2, 1), times(2, 2), times(2, 3), times(2, 4));
        Checks.due("62 parts", () -> deep.loaded(), 6);
        FontMaker many = new FontMaker().add(empty);
        for (int k = 0; k < 20; k++) {
            many.add(times(15, 0), times(4, 2 * k + 1));
        }
        Checks.due("each glyph has 64 for itself", () -> many.loaded(), 41);
        FontMaker just = new FontMaker().add(empty, times(3, 0), times(15, 1), times(1, 2), times(2, 1));
        Checks.due("15 and 45, and one round them", () -> just.loaded(), 5);
        FontMaker over = new FontMaker().add(empty, times(3, 0), times(16, 1), times(1, 2));
        Checks.due("16 and 48, and one round them", () -> over.loaded(), FontOutlines.GLYPHS);
        FontMaker full = new FontMaker().add(empty, times(3, 0), times(16, 1));
        Checks.due("16 and 48", () -> full.loaded(), 3);
    }

    private static void coordinates() {
        byte[] far = FontMaker.simple(new int[] {1}, new int[] {-16384, -16384, 1}, new int[] {16383, 16383, 1});
        loads("far points", 3, far, composed(part(MOVED, 1, 0, 0)));
        loads("x moved too far", FontOutlines.GLYPHS, far, composed(part(MOVED, 1, 1, 0)));
        loads("x moved too far back", FontOutlines.GLYPHS, far, composed(part(MOVED, 1, -1, 0)));
        loads("y moved too far", FontOutlines.GLYPHS, far, composed(part(MOVED, 1, 0, 1)));
        loads("y moved too far back", FontOutlines.GLYPHS, far, composed(part(MOVED, 1, 0, -1)));
        loads("turned too far", FontOutlines.GLYPHS, far, composed(part(MOVED | ONE_FACTOR, 1, 0, 0, -ONE)));
        byte[] right = FontMaker.simple(new int[] {0}, new int[] {10000, 0, 1});
        FontOutlines x = with(right, composed(part(MOVED | ONE_FACTOR, 1, -20000, 0, 32767))).font();
        outline("turned beyond, but moved back", x, 2, -1, 0);
        FontOutlines y = with(right, composed(part(MOVED | FOLLOWED, 0, 0, 0),
                part(ONE_FACTOR, 1, 2, 0, 32767))).font();
        Checks.due("turned beyond, but laid on a point", () -> y.point(2, 3, 0), 50);
        loads("moved beyond in a part, and back", FontOutlines.GLYPHS, right, composed(part(MOVED, 1, 10000, 0)),
                composed(part(MOVED, 2, -10000, 0)));
    }

    private static void width(FontOutlines x, int glyph, int giver) {
        Checks.due("WIDTH of " + glyph, () -> x.measure(glyph, 0), 100 + giver);
        Checks.due("LEFT of " + glyph, () -> x.measure(glyph, 1), giver - 5);
    }

    private static void widths() {
        FontOutlines x = with(FontMaker.heap(1),
                composed(part(MOVED | FOLLOWED, 0, 0, 0), part(MOVED, 1, 0, 0)),
                composed(part(MOVED | FOLLOWED | GIVES_WIDTH, 0, 0, 0), part(MOVED, 1, 0, 0)),
                composed(part(MOVED | FOLLOWED | GIVES_WIDTH, 0, 0, 0), part(MOVED | GIVES_WIDTH, 1, 0, 0)),
                composed(part(MOVED | FOLLOWED | GIVES_WIDTH, 4, 0, 0), part(MOVED, 3, 0, 0)),
                composed(part(MOVED | GIVES_WIDTH, 2, 0, 0)),
                composed(part(MOVED, 4, 0, 0)),
                composed(part(MOVED | GIVES_WIDTH, 9, 0, 0)),
                new byte[0]).font();
        int[] givers = {0, 1, 2, 0, 1, 1, 2, 7, 9, 9};
        for (int g = 0; g < givers.length; g++) {
            width(x, g, givers[g]);
        }
    }
}
