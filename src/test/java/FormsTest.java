/** Terms, FORMS: head, maxp, hhea, hmtx and loca. The map has a test of its own, MapsTest. */
final class FormsTest {
    private static final int FONT = 3;

    public static void main(String[] args) {
        numbers();
        places();
        headLength();
        em();
        kindOfPlaces();
        maxpLength();
        numberOfGlyphs();
        hheaLength();
        numberOfWidths();
        hmtxLength();
        widthsBelowH();
        widthsOfTheOthers();
        locaLength();
        kindsOfNumbers();
        placesDoNotFall();
        lastPlace();
        dataOfAGlyph();
        Checks.end();
    }

    private static FontMaker plain() {
        return new FontMaker().add(FontMaker.triangle(), FontMaker.triangle(), new byte[0]);
    }

    private static FontMaker empties(int many) {
        FontMaker maker = new FontMaker();
        for (int g = 0; g < many; g++) {
            maker.add(new byte[0]);
        }
        return maker;
    }

    private static void with(String told, String name, Data table, int want) {
        Checks.due(told, () -> plain().with(name, table.done()).loaded(), want);
    }

    private static void numbers() {
        Checks.sentence("NUMBERS in it have their highest byte first: U8, U16, U32 without, S8, S16 with a sign");
        int[] bytes = {0, 1, 2, 127, 128, 255};
        for (int high : bytes) {
            for (int low : bytes) {
                byte[] hmtx = new Data().u8(high, low, high, low).done();
                FontOutlines x = empties(1).with("hmtx", hmtx).font();
                int number = 256 * high + low;
                Checks.due("U16 of " + high + ", " + low, () -> x.measure(0, 0), number);
                Checks.due("S16 of " + high + ", " + low, () -> x.measure(0, 1), high < 128 ? number : number - 65536);
            }
        }
        with("EM of 1, 2", "head", head(0x0102, 0).u16(0), FONT);
        with("EM of 64, 1", "head", head(0x4001, 0).u16(0), FontOutlines.FORMS);
        with("EM of 0, 64", "head", head(0x0040, 0).u16(0), FONT);
    }

    /** Wherever the tables lie, also in another order than their names, also on odd places. */
    private static void places() {
        Checks.sentence("Places are told from the beginning of the file, or of the table that is spoken of");
        byte[] file = plain().file();
        FontOutlines x = new FontOutlines();
        FontMaker.feed(x, file);
        Checks.due("as it was made", () -> x.load(true), FONT);
        String due = State.ofFont(x);
        for (int shift = 0; shift < 4; shift++) {
            FontOutlines y = new FontOutlines();
            FontMaker.feed(y, movedBehind(file, shift));
            Checks.due("all tables moved, " + shift, () -> y.load(true), FONT);
            Checks.same("the font", State.ofFont(y), due);
        }
        byte[] wrong = movedBehind(file, 1);
        wrong[12 + 11]--;
        FontOutlines z = new FontOutlines();
        FontMaker.feed(z, wrong);
        Checks.due("a place too small by one", () -> z.load(true), FontOutlines.SUMS);
        firstPlace();
    }

    /** A file whose first fifteen bytes are a glyph, too: one contour of one point, which is ON, at 0, 0. */
    private static void firstPlace() {
        FontMaker maker = empties(1).with("\0\0" + "1" + "\0", new byte[0]).with("loca", new Data().u32(0, 15).done());
        maker.longPlaces = true;
        byte[] file = maker.file();
        int glyf = 12 + 16 * 2;
        System.arraycopy(new Data().u32(0, 0, 15).done(), 0, file, glyf + 4, 12);
        FontOutlines x = new FontOutlines();
        FontMaker.feed(x, file);
        Checks.due("glyf at 0", () -> x.load(false), 1);
        Checks.due("its points", () -> x.measure(0, 2), 1);
        Checks.due("its point is ON", () -> x.point(0, 0, 2), 1);
        x.put(glyf + 11, 1);
        Checks.due("glyf at 1", () -> x.load(false), FontOutlines.GLYPHS);
        x.put(glyf + 11, 0);
        x.put(glyf + 15, 14);
        Checks.due("glyf at 0, a byte too short for loca", () -> x.load(false), FontOutlines.FORMS);
    }

    /** The same tables behind the old file's end, the last one first, with some bytes between them. */
    private static byte[] movedBehind(byte[] file, int between) {
        Data moved = new Data().all(file);
        int[] places = new int[7];
        for (int k = 6; k >= 0; k--) {
            moved.zeros(between);
            places[k] = moved.size();
            int place = number(file, 12 + 16 * k + 8);
            moved.all(java.util.Arrays.copyOfRange(file, place, place + number(file, 12 + 16 * k + 12)));
        }
        byte[] done = moved.done();
        for (int k = 0; k < 7; k++) {
            System.arraycopy(new Data().u32(places[k]).done(), 0, done, 12 + 16 * k + 8, 4);
        }
        return done;
    }

    private static int number(byte[] file, int i) {
        return (file[i + 2] & 255) * 256 + (file[i + 3] & 255);
    }

    private static Data head(int em, int kind) {
        return new Data().zeros(18).u16(em).zeros(30).u16(kind);
    }

    private static void headLength() {
        Checks.sentence("head has at least 54 bytes");
        for (int length = 0; length <= 60; length++) {
            byte[] head = java.util.Arrays.copyOf(head(1000, 0).done(), length);
            Checks.due("head of " + length, () -> plain().with("head", head).loaded(),
                    length < 54 ? FontOutlines.FORMS : FONT);
        }
    }

    private static void em() {
        Checks.sentence("U16 at 18 EM, 16 .. 16384");
        int[] wrong = {0, 1, 15, 16385, 16400, 32768, 65535};
        for (int em : wrong) {
            with("EM " + em, "head", head(em, 0).u16(0), FontOutlines.FORMS);
        }
        int[] right = {16, 17, 256, 1000, 16383, 16384};
        for (int em : right) {
            with("EM " + em, "head", head(em, 0).u16(0), FONT);
        }
        with("other bytes are free", "head", new Data().u32(-1, -1, -1, -1).u16(-1, 16)
                .u32(-1, -1, -1, -1, -1, -1, -1).u16(-1, 0, -1), FONT);
    }

    private static void kindOfPlaces() {
        Checks.sentence("U16 at 50 is 0 or 1.");
        int[] kinds = {0, 1, 2, 3, 255, 256, 257, 32768, 65535};
        for (int kind : kinds) {
            FontMaker maker = empties(3).with("head", head(1000, kind).u16(0).done()).with("loca", new byte[16]);
            Checks.due("U16 at 50 is " + kind, () -> maker.loaded(), kind > 1 ? FontOutlines.FORMS : FONT);
        }
    }

    private static void maxpLength() {
        Checks.sentence("maxp at least 6");
        with("maxp of no bytes", "maxp", new Data(), FontOutlines.FORMS);
        with("maxp of 4 bytes", "maxp", new Data().zeros(4), FontOutlines.FORMS);
        with("maxp of 6 bytes", "maxp", new Data().zeros(4).u16(3), FONT);
        with("maxp of 7 bytes", "maxp", new Data().zeros(4).u16(3).u8(9), FONT);
        with("maxp of 32 bytes", "maxp", new Data().u32(-1).u16(3).zeros(26), FONT);
        FontMaker half = empties(256).with("maxp", new Data().zeros(4).u8(1).done());
        Checks.due("maxp of 5 bytes, half of 256 in it", () -> half.loaded(), FontOutlines.FORMS);
        half.with("maxp", new Data().zeros(4).u8(1, 0).done());
        Checks.due("the whole of 256", () -> half.loaded(), 256);
    }

    private static void numberOfGlyphs() {
        Checks.sentence("U16 at 4 the number of glyphs N, 1 .. 256.");
        int[] counts = {1, 2, 255, 256, 257, 258, 512};
        for (int many : counts) {
            Checks.due(many + " glyphs", () -> empties(many).loaded(), many > 256 ? FontOutlines.FORMS : many);
        }
        with("no glyphs", "maxp", new Data().zeros(4).u16(0), FontOutlines.FORMS);
        FontMaker none = new FontMaker().with("loca", new byte[2]).with("hhea", new Data().zeros(36).done());
        Checks.due("no glyphs anywhere", () -> none.loaded(), FontOutlines.FORMS);
        with("more glyphs than places", "maxp", new Data().zeros(4).u16(4), FontOutlines.FORMS);
        FontMaker fewer = plain().with("maxp", new Data().zeros(4).u16(2).done());
        fewer.widths = 2;
        Checks.due("fewer glyphs than places", () -> fewer.loaded(), 2);
    }

    private static void hheaLength() {
        Checks.sentence("hhea at least 36");
        with("hhea of no bytes", "hhea", new Data(), FontOutlines.FORMS);
        with("hhea of 34 bytes", "hhea", new Data().zeros(34), FontOutlines.FORMS);
        with("hhea of 36 bytes", "hhea", new Data().zeros(34).u16(3), FONT);
        with("hhea of 37 bytes", "hhea", new Data().zeros(34).u16(3).u8(7), FONT);
        with("other bytes are free", "hhea", new Data().u32(-1, -1, -1, -1, -1, -1, -1, -1).u16(-1, 3, -1), FONT);
        FontMaker half = empties(256).with("hhea", new Data().zeros(34).u8(1).done());
        Checks.due("hhea of 35 bytes, half of 256 in it", () -> half.loaded(), FontOutlines.FORMS);
        half.with("hhea", new Data().zeros(34).u8(1, 0).done());
        Checks.due("the whole of 256", () -> half.loaded(), 256);
    }

    /** hmtx is long enough for all. */
    private static void numberOfWidths() {
        Checks.sentence("U16 at 34 H, 1 .. N.");
        int[] counts = {0, 1, 2, 3, 4, 5, 256, 259, 32768, 65535};
        for (int widths : counts) {
            FontMaker maker = plain().with("hhea", new Data().zeros(34).u16(widths).done())
                    .with("hmtx", new byte[1100]);
            Checks.due("H is " + widths, () -> maker.loaded(), widths < 1 || widths > 3 ? FontOutlines.FORMS : FONT);
        }
        FontMaker one = empties(1).with("hmtx", new byte[20]);
        Checks.due("H is 1 of 1", () -> one.loaded(), 1);
        one.with("hhea", new Data().zeros(34).u16(2).done());
        Checks.due("H is 2 of 1", () -> one.loaded(), FontOutlines.FORMS);
    }

    private static void hmtxLength() {
        Checks.sentence("hmtx at least 4 H + 2 (N - H)");
        for (int widths = 1; widths <= 3; widths++) {
            int due = 4 * widths + 2 * (3 - widths);
            FontMaker maker = plain();
            maker.widths = widths;
            for (int length = 0; length <= due + 2; length++) {
                maker.with("hmtx", new byte[length]);
                Checks.due("H is " + widths + ", hmtx of " + length, () -> maker.loaded(),
                        length < due ? FontOutlines.FORMS : FONT);
            }
        }
        FontMaker all = empties(256).with("hmtx", new byte[1024]);
        Checks.due("256 widths", () -> all.loaded(), 256);
        all.with("hmtx", new byte[1023]);
        Checks.due("256 widths but for a byte", () -> all.loaded(), FontOutlines.FORMS);
        FontMaker one = empties(256).with("hmtx", new byte[514]);
        one.widths = 1;
        Checks.due("1 width", () -> one.loaded(), 256);
        one.with("hmtx", new byte[513]);
        Checks.due("1 width, a byte lacks", () -> one.loaded(), FontOutlines.FORMS);
    }

    private static void measures(FontOutlines x, int glyph, int width, int left) {
        Checks.due("WIDTH of " + glyph, () -> x.measure(glyph, 0), width);
        Checks.due("LEFT of " + glyph, () -> x.measure(glyph, 1), left);
    }

    private static void widthsBelowH() {
        Checks.sentence("for each glyph below H U16 its WIDTH, S16 its LEFT");
        FontOutlines x = empties(4).with("hmtx", new Data().u16(65535, 32767, 32768, 32768, 0, 65535, 258, 772).done())
                .font();
        measures(x, 0, 65535, 32767);
        measures(x, 1, 32768, -32768);
        measures(x, 2, 0, -1);
        measures(x, 3, 258, 772);
    }

    private static void widthsOfTheOthers() {
        Checks.sentence("then for each of the others S16 its LEFT, their WIDTH being that of H - 1.");
        for (int widths = 1; widths <= 4; widths++) {
            FontMaker maker = empties(4);
            maker.widths = widths;
            FontOutlines x = maker.font();
            for (int g = 0; g < 4; g++) {
                measures(x, g, 100 + Math.min(g, widths - 1), g - 5);
            }
        }
        FontMaker far = empties(3).with("hmtx", new Data().u16(65535, 1, 32768, 32767, 77, 88).done());
        far.widths = 1;
        FontOutlines x = far.font();
        measures(x, 0, 65535, 1);
        measures(x, 1, 65535, -32768);
        measures(x, 2, 65535, 32767);
    }

    private static void locaLength() {
        Checks.sentence("loca: N + 1 numbers");
        int[] counts = {1, 3, 256};
        for (int many : counts) {
            for (int size = 2; size <= 4; size += 2) {
                FontMaker maker = empties(many);
                maker.longPlaces = size == 4;
                int due = size * (many + 1);
                int[] lengths = {0, due - size, due - 1, due, due + 1, due + 40};
                for (int length : lengths) {
                    maker.with("loca", new byte[length]);
                    Checks.due(many + " glyphs, loca of " + length, () -> maker.loaded(),
                            length < due ? FontOutlines.FORMS : many);
                }
            }
        }
    }

    private static void kindsOfNumbers() {
        Checks.sentence("U16s to be doubled if head says 0, U32s if 1");
        byte[] glyph = FontMaker.heap(9);
        int whole = glyph.length;
        FontMaker doubled = empties(1).with("glyf", glyph).with("loca", new Data().u16(0, whole / 2, 0, 0).done());
        Checks.due("U16s: points", () -> doubled.font().measure(0, 2), 9);
        doubled.longPlaces = true;
        Checks.due("the same as U32s", () -> doubled.loaded(), FontOutlines.FORMS);
        FontMaker plain = empties(1).with("glyf", glyph).with("loca", new Data().u32(0, whole).done());
        plain.longPlaces = true;
        Checks.due("U32s: points", () -> plain.font().measure(0, 2), 9);
        plain.longPlaces = false;
        Checks.due("the same as U16s: no points", () -> plain.font().measure(0, 2), 0);
        plain.with("glyf", new Data().zeros(5).all(glyph).done()).with("loca", new Data().u32(5, 5 + whole).done());
        plain.longPlaces = true;
        Checks.due("U32s need not be even", () -> plain.font().measure(0, 2), 9);
    }

    /** Places in a glyf of one glyph, none of them above its length. */
    private static FontMaker placed(boolean wide, long... places) {
        FontMaker maker = empties(places.length - 1).with("glyf", new byte[100]);
        maker.longPlaces = wide;
        Data loca = new Data();
        for (long place : places) {
            if (wide) {
                loca.u32(place);
            } else {
                loca.u16((int) place);
            }
        }
        return maker.with("loca", loca.done());
    }

    private static void falls(boolean wide, int want, long... places) {
        Checks.due((wide ? "U32s " : "U16s ") + java.util.Arrays.toString(places),
                () -> placed(wide, places).loaded(), want);
    }

    private static void placesDoNotFall() {
        Checks.sentence("none below the one before");
        boolean[] kinds = {false, true};
        for (boolean wide : kinds) {
            falls(wide, 2, 0, 0, 0);
            falls(wide, 2, 7, 7, 7);
            falls(wide, 2, 0, 0, 20);
            falls(wide, 2, 0, 20, 20);
            falls(wide, FontOutlines.FORMS, 1, 0, 0);
            falls(wide, FontOutlines.FORMS, 1, 0, 1);
            falls(wide, FontOutlines.FORMS, 20, 20, 19);
            falls(wide, FontOutlines.FORMS, 0, 20, 19);
            falls(wide, FontOutlines.FORMS, 50, 0, 50);
            falls(wide, FontOutlines.FORMS, 0, 65535, 50);
            falls(wide, FontOutlines.FORMS, 0, 0, 20, 19, 20);
        }
        falls(true, FontOutlines.FORMS, 0, 0x80000000L, 50);
        falls(true, FontOutlines.FORMS, 0, 0xffffffffL, 50);
        falls(true, FontOutlines.FORMS, 0xffffffffL, 0, 50);
    }

    private static void lastPlace() {
        Checks.sentence("the last not above the length of glyf");
        falls(true, 1, 100, 100);
        falls(true, FontOutlines.FORMS, 101, 101);
        falls(true, FontOutlines.FORMS, 0, 101);
        falls(true, FontOutlines.FORMS, 0x80000000L, 0x80000000L);
        falls(true, FontOutlines.FORMS, 0, 0xffffffffL);
        falls(true, FontOutlines.FORMS, 0xffffffffL, 0xffffffffL);
        falls(false, 1, 50, 50);
        falls(false, FontOutlines.FORMS, 51, 51);
        falls(false, FontOutlines.FORMS, 65535, 65535);
        FontMaker odd = placed(false, 50, 50).with("glyf", new byte[101]);
        Checks.due("doubled 50 of 101", () -> odd.loaded(), 1);
        odd.with("loca", new Data().u16(51, 51).done());
        Checks.due("doubled 51 of 101", () -> odd.loaded(), FontOutlines.FORMS);
        FontMaker none = empties(1).with("glyf", new byte[0]);
        Checks.due("0 of no bytes", () -> none.loaded(), 1);
        none.with("loca", new Data().u16(1, 1).done());
        Checks.due("doubled 1 of no bytes", () -> none.loaded(), FontOutlines.FORMS);
        none.longPlaces = true;
        none.with("loca", new Data().u32(1, 1).done());
        Checks.due("1 of no bytes", () -> none.loaded(), FontOutlines.FORMS);
    }

    private static void dataOfAGlyph() {
        Checks.sentence("glyph g's DATA are the bytes of glyf from number g up to number g + 1.");
        byte[] three = FontMaker.heap(3);
        byte[] four = FontMaker.heap(4);
        int first = 8;
        int second = first + three.length;
        int end = second + four.length;
        Data glyf = new Data().u32(-1, -1).all(three).all(four).u32(-1, -1);
        FontMaker maker = empties(4).with("glyf", glyf.done())
                .with("loca", new Data().u32(first, second, second, end, end).done());
        maker.longPlaces = true;
        int[] points = {3, 0, 4, 0};
        for (int g = 0; g < points.length; g++) {
            int glyph = g;
            Checks.due("points of " + g, () -> maker.font().measure(glyph, 2), points[g]);
        }
        maker.with("loca", new Data().u32(first, second - 1, second - 1, second - 1, second - 1).done());
        Checks.due("a byte of the first lacks", () -> maker.loaded(), FontOutlines.GLYPHS);
        maker.with("loca", new Data().u32(first, second, second, end - 1, end - 1).done());
        Checks.due("a byte of the third lacks", () -> maker.loaded(), FontOutlines.GLYPHS);
        maker.with("loca", new Data().u32(first, second, second, second, second + 1).done());
        Checks.due("one byte for the fourth", () -> maker.loaded(), FontOutlines.GLYPHS);
        maker.with("loca", new Data().u32(first, end, end, end, end).done());
        Checks.due("the first has more bytes", () -> maker.font().measure(0, 2), 3);
    }
}
