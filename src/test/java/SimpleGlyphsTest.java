import java.util.Arrays;

/** Promise 6, GLYPHS, and promise 9: glyphs without parts. */
final class SimpleGlyphsTest {
    public static void main(String[] args) {
        shortData();
        contours();
        passedOver();
        flags();
        steps();
        coordinates();
        Checks.end();
    }

    private static FontMaker one(byte[] glyph) {
        FontMaker maker = new FontMaker().add(glyph);
        maker.longPlaces = true;
        return maker;
    }

    private static void loads(String told, byte[] glyph, int want) {
        Checks.due(told, () -> one(glyph).loaded(), want);
    }

    private static Data begin(int kind) {
        return new Data().u16(kind).zeros(8);
    }

    private static void shortData() {
        byte[] whole = FontMaker.triangle();
        for (int length = 1; length < whole.length; length++) {
            loads("only " + length + " bytes of a glyph", Arrays.copyOf(whole, length), FontOutlines.GLYPHS);
        }
        loads("no bytes", new byte[0], 1);
        loads("all bytes", whole, 1);
        loads("more bytes", Arrays.copyOf(whole, whole.length + 5), 1);
        FontMaker two = new FontMaker().add(Arrays.copyOf(whole, whole.length - 2), whole);
        Checks.due("what lacks lies in the next glyph's data", () -> two.loaded(), FontOutlines.GLYPHS);
    }

    private static void contours() {
        loads("C is 0", begin(0).u16(0).done(), 1);
        loads("C is 0, nothing behind", begin(0).done(), FontOutlines.GLYPHS);
        loads("C is 0, half a number behind", begin(0).u8(0).done(), FontOutlines.GLYPHS);
        loads("C is -2", begin(-2).zeros(40).done(), FontOutlines.GLYPHS);
        loads("C is -32768", begin(-32768).zeros(40).done(), FontOutlines.GLYPHS);
        loads("C is 32767", begin(32767).zeros(40).done(), FontOutlines.GLYPHS);
        for (int many = 1; many <= 33; many++) {
            Data data = begin(many);
            for (int k = 0; k < many; k++) {
                data.u16(k);
            }
            loads("C is " + many, data.u16(0).u8(0x39, many - 1).done(), many <= 32 ? 1 : FontOutlines.GLYPHS);
        }
        loads("256 points", FontMaker.heap(256), 1);
        loads("257 points", FontMaker.heap(257), FontOutlines.GLYPHS);
        loads("65536 points", begin(1).u16(65535, 0).zeros(600).done(), FontOutlines.GLYPHS);
        loads("ends alike", begin(2).u16(1, 1, 0).u8(0x39, 1).zeros(40).done(), FontOutlines.GLYPHS);
        loads("ends falling", begin(2).u16(1, 0, 0).u8(0x39, 1).zeros(40).done(), FontOutlines.GLYPHS);
        loads("ends rising", begin(2).u16(0, 1, 0).u8(0x39, 1).done(), 1);
        FontOutlines x = one(begin(3).u16(0, 3, 5, 0).u8(0x39, 5).done()).font();
        int[] due = {0, 1, 1, 1, 2, 2};
        for (int i = 0; i < due.length; i++) {
            int number = i;
            Checks.due("contour of point " + i, () -> x.point(0, number, 3), due[i]);
        }
        Checks.due("three contours", () -> x.measure(0, 3), 3);
        Checks.due("six points", () -> x.measure(0, 2), 6);
        Checks.dueThrow("no seventh", () -> x.point(0, 6, 3), Checks.INDEX);
    }

    private static void passedOver() {
        loads("bytes passed over", begin(1).u16(0, 5).u8(1, 2, 3, 4, 5).u8(0x31).done(), 1);
        loads("bytes passed over, but no flag", begin(1).u16(0, 5).u8(1, 2, 3, 4, 5).done(), FontOutlines.GLYPHS);
        loads("C is 0, bytes passed over", begin(0).u16(3).u8(1, 2, 3).done(), 1);
        loads("C is 0, too few to be passed over", begin(0).u16(3).u8(1, 2).done(), FontOutlines.GLYPHS);
        loads("65535 to be passed over", begin(0).u16(65535).zeros(100).done(), FontOutlines.GLYPHS);
        FontOutlines x = one(begin(1).u16(0, 2).u8(9, 9).u8(0x37, 7, 8).done()).font();
        Checks.due("x behind what is passed over", () -> x.point(0, 0, 0), 7);
        Checks.due("y behind what is passed over", () -> x.point(0, 0, 1), 8);
    }

    private static void flags() {
        loads("a flag for all points", begin(1).u16(4, 0).u8(0x38, 4).done(), 1);
        loads("a flag for more points than there are", begin(1).u16(4, 0).u8(0x38, 5).done(), FontOutlines.GLYPHS);
        loads("a flag for 255 more", begin(1).u16(4, 0).u8(0x38, 255).done(), FontOutlines.GLYPHS);
        loads("a flag for too few points", begin(1).u16(4, 0).u8(0x38, 3).done(), FontOutlines.GLYPHS);
        loads("a flag without its number", begin(1).u16(0, 0).u8(0x38).done(), FontOutlines.GLYPHS);
        loads("a flag for 0 more", begin(1).u16(0, 0).u8(0x38, 0).done(), 1);
        FontOutlines x = one(begin(1).u16(5, 0).u8(0x39, 1, 0x30, 0x38, 1, 0xf1).done()).font();
        int[] on = {1, 1, 0, 0, 0, 1};
        for (int i = 0; i < on.length; i++) {
            int number = i;
            Checks.due("point " + i + " is ON", () -> x.point(0, number, 2), on[i]);
        }
    }

    /** All ways to step, for x and for y. */
    private static void steps() {
        Data data = begin(1).u16(5, 0);
        data.u8(0x00, 0x12, 0x02, 0x10, 0x24, 0x04);
        data.u16(-300).u8(255, 5).u16(1000, -1);
        data.u16(500, -600, 300, -7).u8(255, 9);
        FontOutlines x = one(data.done()).font();
        int[] xs = {-300, -45, -50, -50, 950, 949};
        int[] ys = {500, -100, 200, 193, 448, 439};
        for (int i = 0; i < xs.length; i++) {
            int number = i;
            Checks.due("x of " + i, () -> x.point(0, number, 0), xs[i]);
            Checks.due("y of " + i, () -> x.point(0, number, 1), ys[i]);
        }
        Checks.due("least x", () -> x.measure(0, 4), -300);
        Checks.due("least y", () -> x.measure(0, 5), -100);
        Checks.due("greatest x", () -> x.measure(0, 6), 950);
        Checks.due("greatest y", () -> x.measure(0, 7), 500);
    }

    private static byte[] at(int... coordinates) {
        int[][] points = new int[coordinates.length / 2][];
        for (int k = 0; k < points.length; k++) {
            points[k] = new int[] {coordinates[2 * k], coordinates[2 * k + 1], 1};
        }
        return FontMaker.simple(new int[] {points.length - 1}, points);
    }

    private static void coordinates() {
        loads("all edges", at(-16384, -16384, 16383, 16383), 1);
        loads("x too small", at(-16385, 0), FontOutlines.GLYPHS);
        loads("x too great", at(16384, 0), FontOutlines.GLYPHS);
        loads("y too small", at(0, -16385), FontOutlines.GLYPHS);
        loads("y too great", at(0, 16384), FontOutlines.GLYPHS);
        loads("too great only on the way", at(0, 0, 16384, 0, 0, 0), FontOutlines.GLYPHS);
        loads("y too small only on the way", at(0, 0, 0, -16385, 0, 0), FontOutlines.GLYPHS);
        FontOutlines x = one(at(-16384, 16383, 16383, -16384)).font();
        Checks.due("x at the edge", () -> x.point(0, 1, 0), 16383);
        Checks.due("y at the edge", () -> x.point(0, 1, 1), -16384);
    }
}
