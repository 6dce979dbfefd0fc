/** Promise 7: the glyph of a character, by both kinds of maps. */
final class CharactersTest {
    public static void main(String[] args) {
        wrongCharacters();
        groups();
        groupsOfFarGlyphs();
        segments();
        ways();
        waysOutOfTheMap();
        segmentsOnSegments();
        choice();
        Checks.end();
    }

    /** A font of so many glyphs without points. */
    private static FontOutlines font(int glyphs, byte[] cmap) {
        FontMaker maker = new FontMaker().withMap(cmap);
        for (int g = 0; g < glyphs; g++) {
            maker.add(new byte[0]);
        }
        return maker.font();
    }

    private static void glyphs(FontOutlines x, int... charactersAndGlyphs) {
        for (int k = 0; k < charactersAndGlyphs.length; k += 2) {
            int c = charactersAndGlyphs[k];
            Checks.due("glyph(" + c + ")", () -> x.glyph(c), charactersAndGlyphs[k + 1]);
        }
    }

    private static void wrongCharacters() {
        byte[][] maps = {FontMaker.groupMap(new long[] {0, 1114111, 1}),
            FontMaker.segmentMap(new int[][] {{0, 65535, 1, 0}})};
        for (byte[] map : maps) {
            FontOutlines x = font(3, map);
            int[] wrong = {-1, 1114112, Integer.MIN_VALUE, Integer.MAX_VALUE};
            for (int c : wrong) {
                Checks.dueThrow("glyph(" + c + ")", () -> x.glyph(c), Checks.ARGUMENT);
            }
            glyphs(x, 0, 1, 1, 2, 2, 0, 1114111, 0);
        }
    }

    private static void groups() {
        FontOutlines x = font(200, FontMaker.groupMap(new long[] {0, 0, 7}, new long[] {65, 90, 10},
                new long[] {91, 91, 50}, new long[] {70000, 70300, 100}, new long[] {1114111, 1114111, 199}));
        glyphs(x, 0, 7, 1, 0, 64, 0, 65, 10, 66, 11, 90, 35, 91, 50, 92, 0, 65535, 0, 69999, 0, 70000, 100,
                70099, 199, 70100, 0, 70300, 0, 70301, 0, 1114110, 0, 1114111, 199);
        glyphs(font(3, FontMaker.groupMap()), 0, 0, 65, 0, 1114111, 0);
        byte[] behind = new Data().all(FontMaker.groupMap(new long[] {5, 6, 1})).u32(65, 66, 1).done();
        glyphs(font(3, behind), 5, 1, 6, 2, 65, 0, 66, 0);
    }

    private static void groupsOfFarGlyphs() {
        FontOutlines x = font(5, FontMaker.groupMap(new long[] {10, 20, 0xfffffffeL},
                new long[] {30, 40, 0x80000000L}, new long[] {50, 60, 65536}, new long[] {70, 80, 4}));
        glyphs(x, 10, 0, 11, 0, 12, 0, 13, 1, 14, 2, 16, 4, 17, 0, 30, 0, 31, 0, 50, 0, 51, 0, 70, 4, 71, 0);
    }

    private static void segments() {
        FontOutlines x = font(100, FontMaker.segmentMap(new int[][] {{65, 90, 65536 - 60, 0}, {100, 100, 65535, 0},
            {200, 300, 10, 0}, {65530, 65535, 8, 0}}));
        glyphs(x, 0, 0, 64, 0, 65, 5, 90, 30, 91, 0, 99, 0, 100, 99, 101, 0, 199, 0, 200, 0, 300, 0, 301, 0,
                65529, 0, 65530, 2, 65535, 7, 65536, 0, 65601, 0, 131071, 0, 1114111, 0);
    }

    private static void ways() {
        // The words lie behind the last WAY, so the way from WAY k of S to word w is 2 (S - k + w).
        FontOutlines x = font(100, FontMaker.segmentMap(new int[][] {{65, 69, 0, 6}, {70, 72, 5, 14},
            {65535, 65535, 1, 0}}, 9, 8, 0, 6, 99, 3, 0, 95));
        glyphs(x, 64, 0, 65, 9, 66, 8, 67, 0, 68, 6, 69, 99, 70, 8, 71, 0, 72, 0, 73, 0, 65535, 0);
        FontOutlines around = font(100, FontMaker.segmentMap(new int[][] {{65, 66, 65535, 4},
            {65535, 65535, 1, 0}}, 1, 50));
        glyphs(around, 65, 0, 66, 49);
        FontOutlines odd = font(256, FontMaker.segmentMap(new int[][] {{65, 66, 0, 5}, {65535, 65535, 1, 0}},
                0xff00, 0x1100, 0x2200));
        glyphs(odd, 65, 0x11, 66, 0x22);
        FontOutlines itself = font(100, FontMaker.segmentMap(new int[][] {{10, 20, 7, 2}, {65535, 65535, 1, 33}}));
        glyphs(itself, 10, 40, 11, 0);
    }

    private static void waysOutOfTheMap() {
        FontOutlines x = font(100, FontMaker.segmentMap(new int[][] {{65, 80, 5, 4}, {65534, 65535, 1, 65535}}, 7, 8));
        glyphs(x, 65, 12, 66, 13, 67, 0, 80, 0, 65534, 0, 65535, 0);
        byte[] half = new Data().all(FontMaker.segmentMap(new int[][] {{65, 80, 5, 4}, {65535, 65535, 1, 0}}, 7))
                .u8(0).done();
        glyphs(font(100, half), 65, 12, 66, 0);
        byte[] highHalf = new Data().all(FontMaker.segmentMap(new int[][] {{65, 80, 65536 - 250, 4},
            {65535, 65535, 1, 0}}, 256)).u8(1).done();
        glyphs(font(100, highHalf), 65, 6, 66, 0);
        byte[] whole = new Data().all(half).u8(9).done();
        glyphs(font(100, whole), 65, 12, 66, 14, 67, 0);
        FontOutlines far = font(100, FontMaker.segmentMap(new int[][] {{0, 65535, 5, 65534}}));
        glyphs(far, 0, 0, 65535, 0);
    }

    /** The first part with LAST not below the character decides, also if a later one has it, too. */
    private static void segmentsOnSegments() {
        FontOutlines x = font(100, FontMaker.segmentMap(new int[][] {{50, 60, 65536 - 49, 0},
            {10, 70, 65536 - 5, 0}, {20, 65535, 65536 - 10, 0}}));
        glyphs(x, 10, 0, 49, 0, 50, 1, 60, 11, 61, 56, 70, 65, 71, 61, 109, 99, 110, 0);
    }

    private static void choice() {
        byte[] segments = FontMaker.segmentsOnly(new int[][] {{65, 65, 65536 - 64, 0}, {65535, 65535, 1, 0}});
        byte[] otherSegments = FontMaker.segmentsOnly(new int[][] {{65, 65, 65536 - 63, 0}, {65535, 65535, 1, 0}});
        byte[] groups = FontMaker.groupsOnly(new long[] {65, 65, 3});
        byte[] otherGroups = FontMaker.groupsOnly(new long[] {65, 65, 4});
        int behind = 4 + 8 * 4;
        int[] places = {behind, behind + segments.length, behind + segments.length + otherSegments.length,
            behind + segments.length + otherSegments.length + groups.length};
        int[][] kinds = {{1, 1, 10, 10}, {10, 1, 10, 1}, {9, 1, 9, 9}, {1, 1, 9, 9}, {9, 1, 9, 10}};
        int[] due = {3, -1, 2, 1, 4};
        for (int k = 0; k < kinds.length; k++) {
            Data data = new Data().u16(0, 4);
            for (int map = 0; map < 4; map++) {
                data.u16(3, kinds[k][map]).u32(places[map]);
            }
            data.all(segments).all(otherSegments).all(groups).all(otherGroups);
            if (due[k] < 0) {
                FontMaker maker = new FontMaker().add(new byte[0]).withMap(data.done());
                Checks.due("groups that are segments", () -> maker.loaded(), FontOutlines.FORMS);
                continue;
            }
            FontOutlines x = font(5, data.done());
            glyphs(x, 65, due[k], 66, 0);
            int kind = due[k] > 2 ? 1 : 0;
            Checks.due("font(1)", () -> x.font(1), kind);
        }
    }
}
