/** Promise 6, FORMS: head, maxp, hhea, hmtx, loca and the map's form. */
final class FormsTest {
    public static void main(String[] args) {
        head();
        counts();
        hmtx();
        loca();
        maps();
        groups();
        segments();
        Checks.end();
    }

    private static FontMaker plain() {
        return new FontMaker().add(FontMaker.triangle(), FontMaker.triangle(), new byte[0]);
    }

    private static void with(String told, String name, Data table, int want) {
        Checks.due(told, () -> plain().with(name, table.done()).loaded(), want);
    }

    private static void head() {
        int[][] ems = {{15, -4}, {16, 3}, {16384, 3}, {16385, -4}, {0, -4}, {65535, -4}};
        for (int[] em : ems) {
            FontMaker maker = plain();
            maker.em = em[0];
            Checks.due("EM " + em[0], () -> maker.loaded(), em[1]);
        }
        with("head of 53 bytes", "head", new Data().zeros(18).u16(1000).zeros(33), FontOutlines.FORMS);
        with("head of 54 bytes", "head", new Data().zeros(18).u16(1000).zeros(34), 3);
        with("head of 55 bytes", "head", new Data().zeros(18).u16(1000).zeros(35), 3);
        with("places 2", "head", new Data().zeros(18).u16(1000).zeros(30).u16(2, 0), FontOutlines.FORMS);
        with("places 256", "head", new Data().zeros(18).u16(1000).zeros(30).u16(256, 0), FontOutlines.FORMS);
        with("places 65535", "head", new Data().zeros(18).u16(1000).zeros(30).u16(65535, 0), FontOutlines.FORMS);
    }

    private static void counts() {
        with("maxp of 5 bytes", "maxp", new Data().zeros(4).u8(0), FontOutlines.FORMS);
        with("no glyphs", "maxp", new Data().zeros(4).u16(0), FontOutlines.FORMS);
        with("2 glyphs", "maxp", new Data().zeros(4).u16(2), FontOutlines.FORMS);
        with("4 glyphs", "maxp", new Data().zeros(4).u16(4), FontOutlines.FORMS);
        with("3 glyphs and more bytes", "maxp", new Data().zeros(4).u16(3, 9), 3);
        FontMaker many = new FontMaker();
        for (int g = 0; g < 257; g++) {
            many.add(new byte[0]);
        }
        Checks.due("257 glyphs", () -> many.loaded(), FontOutlines.FORMS);
        halfNumbers();
        with("hhea of 35 bytes", "hhea", new Data().zeros(35), FontOutlines.FORMS);
        with("H is 0", "hhea", new Data().zeros(34).u16(0), FontOutlines.FORMS);
        with("H is 1", "hhea", new Data().zeros(34).u16(1), 3);
        with("H is N", "hhea", new Data().zeros(34).u16(3), 3);
        with("H is above N", "hhea", new Data().zeros(34).u16(4), FontOutlines.FORMS);
        with("H is N, hhea longer", "hhea", new Data().zeros(34).u16(3, 7), 3);
        FontMaker fewer = plain().with("maxp", new Data().zeros(4).u16(2).done())
                .with("hhea", new Data().zeros(34).u16(2).done());
        Checks.due("fewer glyphs than loca has", () -> fewer.loaded(), 2);
    }

    /** Numbers of which only the first byte lies in the table. */
    private static void halfNumbers() {
        FontMaker maker = new FontMaker();
        for (int g = 0; g < 256; g++) {
            maker.add(new byte[0]);
        }
        byte[] hhea = maker.hhea();
        maker.with("maxp", new Data().zeros(4).u8(1).done());
        Checks.due("half of N", () -> maker.loaded(), FontOutlines.FORMS);
        maker.with("maxp", maker.maxp()).with("hhea", new Data().zeros(34).u8(1).done());
        Checks.due("half of H", () -> maker.loaded(), FontOutlines.FORMS);
        maker.with("hhea", hhea);
        Checks.due("whole numbers", () -> maker.loaded(), 256);
    }

    private static void hmtx() {
        for (int widths = 1; widths <= 3; widths++) {
            int due = 4 * widths + 2 * (3 - widths);
            FontMaker maker = plain();
            maker.widths = widths;
            Checks.due("H " + widths, () -> maker.loaded(), 3);
            maker.with("hmtx", new byte[due - 1]);
            Checks.due("hmtx a byte too short", () -> maker.loaded(), FontOutlines.FORMS);
            maker.with("hmtx", new byte[due]);
            Checks.due("hmtx just long enough", () -> maker.loaded(), 3);
        }
    }

    private static FontMaker long3() {
        FontMaker maker = new FontMaker().add(new byte[0], new byte[0]).with("glyf", FontMaker.heap(9));
        maker.longPlaces = true;
        return maker;
    }

    private static void loca() {
        byte[] glyph = FontMaker.heap(9);
        int half = glyph.length / 2;
        FontMaker maker = new FontMaker().add(new byte[0], new byte[0]).with("glyf", glyph);
        int[][] places = {{0, 0, half, 2}, {0, half, half, 2}, {half, half, half, 2}, {0, 0, half + 1, -4},
            {1, 0, half, -4}, {0, half, half - 1, -4}, {half + 1, half + 1, half + 1, -4}, {0, 65535, half, -4}};
        for (int[] row : places) {
            maker.with("loca", new Data().u16(row[0], row[1], row[2]).done());
            Checks.due("places doubled " + row[0] + ", " + row[1] + ", " + row[2], () -> maker.loaded(), row[3]);
        }
        maker.with("loca", new Data().u16(0, 0).u8(0).done());
        Checks.due("loca of U16s a byte too short", () -> maker.loaded(), FontOutlines.FORMS);
        maker.with("loca", new Data().u16(0, 0, half, 0).done());
        Checks.due("loca of U16s too long", () -> maker.loaded(), 2);
        longLoca(glyph.length);
    }

    private static void longLoca(int whole) {
        long[][] places = {{0, 0, whole, 2}, {whole, whole, whole, 2}, {0, 0, whole + 1, -4}, {1, 0, whole, -4},
            {0, 0xffffffffL, whole, -4}, {0, 0, 0xffffffffL, -4}, {0, 0x80000000L, 0x80000000L, -4},
            {0, 0, 0x100000000L + whole, 2}};
        for (long[] row : places) {
            FontMaker maker = long3().with("loca", new Data().u32(row[0], row[1], row[2]).done());
            Checks.due("places " + row[0] + ", " + row[1] + ", " + row[2], () -> maker.loaded(), (int) row[3]);
        }
        FontMaker cut = long3().with("loca", new byte[11]);
        Checks.due("loca of U32s a byte too short", () -> cut.loaded(), FontOutlines.FORMS);
        FontMaker just = long3().with("loca", new byte[12]);
        Checks.due("loca of U32s just long enough", () -> just.loaded(), 2);
    }

    private static void map(String told, Data cmap, int want) {
        with(told, "cmap", cmap, want);
    }

    private static void maps() {
        byte[] segments = FontMaker.segmentsOnly(new int[][] {{0, 65535, 1, 0}});
        byte[] groups = FontMaker.groupsOnly(new long[] {65, 66, 1});
        map("cmap of 3 bytes", new Data().zeros(3), FontOutlines.FORMS);
        map("no maps", new Data().u16(0, 0), FontOutlines.FORMS);
        map("no maps, but one lies there", new Data().u16(0, 0, 3, 1).u32(12).all(segments), FontOutlines.FORMS);
        map("a map of another kind", new Data().u16(0, 1, 0, 3).u32(12).all(segments), FontOutlines.FORMS);
        map("a map of 1, 10", new Data().u16(0, 1, 1, 10).u32(12).all(groups), FontOutlines.FORMS);
        map("a map of 3, 0", new Data().u16(0, 1, 3, 0).u32(12).all(segments), FontOutlines.FORMS);
        map("another kind before", new Data().u16(0, 2, 0, 3).u32(0).u16(3, 1).u32(20).all(segments), 3);
        map("the first number is free", new Data().u16(77, 1, 3, 1).u32(12).all(segments), 3);
        map("more maps than lie in it", new Data().u16(0, 5, 3, 1).u32(12).all(segments), FontOutlines.FORMS);
        map("maps up to its end", new Data().u16(0, 5, 3, 1).u32(12).all(segments).zeros(8), 3);
        map("maps up to a byte behind its end", new Data().u16(0, 5, 3, 1).u32(12).all(segments).zeros(7),
                FontOutlines.FORMS);
        map("half a map's row", new Data().u16(0, 2, 3, 1).u32(0).u16(4, 0), FontOutlines.FORMS);
        map("place at the end", new Data().u16(0, 1, 3, 1).u32(12 + segments.length).all(segments),
                FontOutlines.FORMS);
        map("place far away", new Data().u16(0, 1, 3, 1).u32(0xffffffffL).all(segments), FontOutlines.FORMS);
        map("groups' place far away", new Data().u16(0, 1, 3, 10).u32(0x80000000L).all(groups),
                FontOutlines.FORMS);
        map("segments called groups", new Data().u16(0, 1, 3, 10).u32(12).all(segments), FontOutlines.FORMS);
        map("groups called segments", new Data().u16(0, 1, 3, 1).u32(12).all(groups), FontOutlines.FORMS);
        map("groups are wrong, segments right", new Data().u16(0, 2, 3, 1).u32(20).u16(3, 10).u32(20)
                .all(segments), FontOutlines.FORMS);
        map("groups are right, segments wrong", new Data().u16(0, 2, 3, 1).u32(20).u16(3, 10).u32(20)
                .all(groups), 3);
        map("the first of 3, 10 is wrong", new Data().u16(0, 2, 3, 10).u32(0).u16(3, 10).u32(20).all(groups),
                FontOutlines.FORMS);
        map("the second of 3, 10 is wrong", new Data().u16(0, 2, 3, 10).u32(20).u16(3, 10).u32(0).all(groups), 3);
        map("the second of 3, 1 is wrong", new Data().u16(0, 2, 3, 1).u32(20).u16(3, 1).u32(0).all(segments), 3);
    }

    private static void groups(String told, int want, long[]... groups) {
        Checks.due(told, () -> plain().withMap(FontMaker.groupMap(groups)).loaded(), want);
    }

    private static void groups() {
        groups("no groups", 3);
        groups("one character", 3, new long[] {7, 7, 1});
        groups("all characters", 3, new long[] {0, 1114111, 0});
        groups("beyond the last character", FontOutlines.FORMS, new long[] {0, 1114112, 0});
        groups("far beyond it", FontOutlines.FORMS, new long[] {5, 0xffffffffL, 0});
        groups("beyond it, with a group before", FontOutlines.FORMS, new long[] {0, 9, 0},
                new long[] {1114111, 1114112, 0});
        groups("first above last", FontOutlines.FORMS, new long[] {8, 7, 0});
        groups("first above last, with a sign", FontOutlines.FORMS, new long[] {0xffffffffL, 7, 0});
        groups("next to one another", 3, new long[] {1, 5, 0}, new long[] {6, 7, 0});
        groups("one on another", FontOutlines.FORMS, new long[] {1, 5, 0}, new long[] {5, 7, 0});
        groups("falling", FontOutlines.FORMS, new long[] {10, 15, 0}, new long[] {6, 7, 0});
        groups("one in another", FontOutlines.FORMS, new long[] {10, 15, 0}, new long[] {12, 13, 0});
        groups("any glyph", 3, new long[] {10, 15, 0xffffffffL});
        byte[] whole = FontMaker.groupMap(new long[] {1, 2, 3}, new long[] {4, 5, 6});
        for (int cut = 1; cut < whole.length; cut++) {
            byte[] less = java.util.Arrays.copyOf(whole, whole.length - cut);
            Checks.due("groups without " + cut, () -> plain().withMap(less).loaded(), FontOutlines.FORMS);
        }
        map("many groups", new Data().u16(0, 1, 3, 10).u32(12).u16(12, 0).u32(0, 0, 0xffffffffL).zeros(120),
                FontOutlines.FORMS);
        map("groups times 12 beyond 2^32", new Data().u16(0, 1, 3, 10).u32(12).u16(12, 0).u32(0, 0, 0x15555556L)
                .zeros(120), FontOutlines.FORMS);
        map("format 13", new Data().u16(0, 1, 3, 10).u32(12).u16(13, 0).u32(0, 0, 0), FontOutlines.FORMS);
        map("other numbers are free", new Data().u16(0, 1, 3, 10).u32(12).u16(12, 9).u32(-1, -1, 0), 3);
    }

    private static void segments(String told, int want, int[]... segments) {
        Checks.due(told, () -> plain().withMap(FontMaker.segmentMap(segments)).loaded(), want);
    }

    private static void segments() {
        segments("one segment", 3, new int[] {0, 65535, 0, 0});
        segments("no segments", FontOutlines.FORMS);
        segments("last one not 65535", FontOutlines.FORMS, new int[] {0, 65534, 0, 0});
        segments("last ones alike", FontOutlines.FORMS, new int[] {0, 65535, 0, 0}, new int[] {0, 65535, 0, 0});
        segments("last ones falling", FontOutlines.FORMS, new int[] {0, 9, 0, 0}, new int[] {0, 8, 0, 0},
                new int[] {65535, 65535, 0, 0});
        segments("LAST is 0", 3, new int[] {0, 0, 0, 0}, new int[] {65535, 65535, 0, 0});
        segments("first above last", FontOutlines.FORMS, new int[] {10, 9, 0, 0}, new int[] {65535, 65535, 0, 0});
        segments("first is last", 3, new int[] {9, 9, 0, 0}, new int[] {65535, 65535, 0, 0});
        segments("one on another", 3, new int[] {0, 9, 0, 0}, new int[] {5, 65535, 0, 0});
        segments("a way out of it", 3, new int[] {0, 9, 0, 65535}, new int[] {10, 65535, 0, 60000});
        map("odd number", new Data().u16(0, 1, 3, 1).u32(12).u16(4, 0, 0, 3, 0, 0, 0, 65535).zeros(80),
                FontOutlines.FORMS);
        map("format 6", new Data().u16(0, 1, 3, 1).u32(12).u16(6, 0, 0, 2, 0, 0, 0, 65535).zeros(8),
                FontOutlines.FORMS);
        map("other numbers are free", new Data().u16(0, 1, 3, 1).u32(12).u16(4, 9, 9, 2, 9, 9, 9, 65535, 9)
                .zeros(6), 3);
        byte[] whole = FontMaker.segmentMap(new int[][] {{0, 65535, 0, 0}});
        for (int cut = 1; cut < whole.length; cut++) {
            byte[] less = java.util.Arrays.copyOf(whole, whole.length - cut);
            Checks.due("segments without " + cut, () -> plain().withMap(less).loaded(), FontOutlines.FORMS);
        }
    }
}
