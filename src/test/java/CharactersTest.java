/** Promise 7 and Terms: the glyph of a character, by both kinds of maps. */
final class CharactersTest {
    public static void main(String[] args) {
        characters();
        groupsGlyph();
        groupsModulo();
        groupsOthers();
        beyond65535();
        firstPart();
        firstAbove();
        noWay();
        way();
        wayLiesInTheMap();
        wayAndDelta();
        notBelowN();
        whichMap();
        Checks.end();
    }

    /** A font of so many glyphs without points. */
    private static FontOutlines font(int glyphs, byte[] cmap) {
        FontMaker maker = new FontMaker().withMap(cmap);
        for (int g = 0; g < glyphs; g++) {
            maker.add(new byte[0]);
        }
        return maker.font();
    }

    private static void glyphs(FontOutlines x, int... charactersAndGlyphs) {
        for (int k = 0; k < charactersAndGlyphs.length; k += 2) {
            int c = charactersAndGlyphs[k];
            Checks.due("glyph(" + c + ")", () -> x.glyph(c), charactersAndGlyphs[k + 1]);
        }
    }

    private static void characters() {
        Checks.sentence("IllegalArgument: c is not 0 .. 1114111.");
        byte[][] maps = {FontMaker.groupMap(new long[] {0, 2, 1}, new long[] {1114110, 1114111, 1}),
            FontMaker.segmentMap(new int[][] {{0, 65535, 1, 0}})};
        int[] last = {2, 0};
        for (int k = 0; k < maps.length; k++) {
            FontOutlines x = font(3, maps[k]);
            int[] wrong = {-1, -2, 1114112, 1114113, Integer.MIN_VALUE, Integer.MAX_VALUE};
            for (int c : wrong) {
                Checks.dueThrow("glyph(" + c + ")", () -> x.glyph(c), Checks.ARGUMENT);
            }
            glyphs(x, 0, 1, 1, 2, 2, 0, 1114111, last[k]);
        }
    }

    private static void groupsGlyph() {
        Checks.sentence("Glyph of a character that lies in one: glyph + (c - first)");
        FontOutlines x = font(200, FontMaker.groupMap(new long[] {0, 0, 7}, new long[] {65, 90, 10},
                new long[] {91, 91, 50}, new long[] {70000, 70300, 100}, new long[] {1114111, 1114111, 199}));
        glyphs(x, 0, 7, 65, 10, 66, 11, 89, 34, 90, 35, 91, 50, 70000, 100, 70001, 101, 70099, 199, 1114111, 199);
        FontOutlines all = font(256, FontMaker.groupMap(new long[] {0, 1114111, 0}));
        glyphs(all, 0, 0, 1, 1, 255, 255, 256, 0, 65536, 0, 1114111, 0);
    }

    private static void groupsModulo() {
        Checks.sentence("(modulo 2^32)");
        FontOutlines x = font(5, FontMaker.groupMap(new long[] {10, 20, 0xfffffffeL},
                new long[] {30, 40, 0x80000000L}, new long[] {50, 60, 0xffffffffL},
                new long[] {1000000, 1114111, 0x100000000L - 114111}));
        glyphs(x, 10, 0, 11, 0, 12, 0, 13, 1, 14, 2, 16, 4, 17, 0, 30, 0, 31, 0, 50, 0, 51, 0, 52, 1, 55, 4, 56, 0,
                1000000, 0, 1114110, 0, 1114111, 0);
        FontOutlines far = font(5, FontMaker.groupMap(new long[] {1000000, 1114111, 0x100000000L - 114109}));
        glyphs(far, 1114108, 0, 1114109, 0, 1114110, 1, 1114111, 2);
    }

    private static void groupsOthers() {
        Checks.sentence("of others 0.");
        FontOutlines x = font(200, FontMaker.groupMap(new long[] {0, 0, 7}, new long[] {65, 90, 10},
                new long[] {92, 92, 50}, new long[] {70000, 70300, 100}));
        glyphs(x, 0, 7, 1, 0, 64, 0, 65, 10, 90, 35, 91, 0, 92, 50, 93, 0, 65535, 0, 69999, 0, 70000, 100, 70301, 0,
                1114110, 0, 1114111, 0);
        glyphs(font(3, FontMaker.groupMap()), 0, 0, 65, 0, 1114111, 0);
        byte[] behind = new Data().all(FontMaker.groupMap(new long[] {5, 6, 1})).u32(65, 66, 1).done();
        glyphs(font(3, behind), 4, 0, 5, 1, 6, 2, 7, 0, 65, 0, 66, 0);
    }

    private static void beyond65535() {
        Checks.sentence("Of a character up to 65535 (others: 0)");
        FontOutlines x = font(200, FontMaker.segmentMap(new int[][] {{0, 65535, 100, 0}}));
        glyphs(x, 0, 100, 1, 101, 65534, 98, 65535, 99, 65536, 0, 65537, 0, 131071, 0, 1114111, 0);
        FontOutlines listed = font(200, FontMaker.segmentMap(new int[][] {{0, 65533, 100, 0}, {65534, 65535, 0, 2}},
                5, 6, 7, 8));
        glyphs(listed, 65534, 5, 65535, 6, 65536, 0, 65537, 0);
    }

    /** The first part with LAST not below the character decides, also if a later one has it, too. */
    private static void firstPart() {
        Checks.sentence("by the first part with LAST not below it");
        FontOutlines x = font(100, FontMaker.segmentMap(new int[][] {{50, 60, 65536 - 49, 0},
            {10, 70, 65536 - 5, 0}, {20, 65535, 65536 - 10, 0}}));
        glyphs(x, 49, 0, 50, 1, 60, 11, 61, 56, 70, 65, 71, 61, 109, 99, 110, 0);
        FontOutlines next = font(100, FontMaker.segmentMap(new int[][] {{0, 0, 5, 0}, {1, 1, 6, 0},
            {2, 65535, 8, 0}}));
        glyphs(next, 0, 5, 1, 7, 2, 10, 3, 11);
    }

    private static void firstAbove() {
        Checks.sentence("0 if FIRST is above c");
        FontOutlines x = font(100, FontMaker.segmentMap(new int[][] {{65, 70, 1, 0}, {75, 80, 1, 6},
            {90, 65535, 65536 - 20, 0}}, 11, 12, 13, 14, 15, 16, 17, 18, 19, 20));
        // Words 0, 1 .. lie behind the last WAY: 4 bytes behind that of the second part.
        glyphs(x, 0, 0, 64, 0, 65, 66, 70, 71, 71, 0, 74, 0, 75, 13, 80, 18, 81, 0, 89, 0, 90, 70, 91, 71);
    }

    private static void noWay() {
        Checks.sentence("if WAY is 0: (c + DELTA) modulo 65536");
        FontOutlines x = font(100, FontMaker.segmentMap(new int[][] {{65, 90, 65536 - 60, 0}, {100, 100, 65535, 0},
            {200, 300, 10, 0}, {65530, 65535, 8, 0}}));
        glyphs(x, 65, 5, 90, 30, 100, 99, 200, 0, 300, 0, 65530, 2, 65535, 7);
        FontOutlines y = font(256, FontMaker.segmentMap(new int[][] {{0, 32767, 32768, 0}, {32768, 65535, 32768, 0}}));
        glyphs(y, 0, 0, 1, 0, 32767, 0, 32768, 0, 32769, 1, 33023, 255, 33024, 0, 65535, 0);
        FontOutlines none = font(256, FontMaker.segmentMap(new int[][] {{0, 65535, 0, 0}}));
        glyphs(none, 0, 0, 1, 1, 255, 255, 256, 0);
    }

    private static void way() {
        Checks.sentence("otherwise the U16 that lies WAY + 2 * (c - FIRST) bytes behind the place of WAY itself");
        // The words lie behind the last WAY, so the way from WAY k of S to word w is 2 (S - k + w).
        FontOutlines x = font(100, FontMaker.segmentMap(new int[][] {{65, 69, 0, 6}, {70, 72, 5, 14},
            {65535, 65535, 1, 0}}, 9, 8, 0, 6, 99, 3, 0, 90));
        glyphs(x, 64, 0, 65, 9, 66, 8, 67, 0, 68, 6, 69, 99, 70, 8, 71, 0, 72, 95, 73, 0, 65535, 0);
        FontOutlines odd = font(256, FontMaker.segmentMap(new int[][] {{65, 66, 0, 5}, {65535, 65535, 1, 0}},
                0xff00, 0x1100, 0x2200));
        glyphs(odd, 65, 0x11, 66, 0x22);
        FontOutlines itself = font(100, FontMaker.segmentMap(new int[][] {{10, 20, 7, 2}, {65535, 65535, 1, 33}}));
        glyphs(itself, 10, 40, 11, 0);
        FontOutlines least = font(256, FontMaker.segmentMap(new int[][] {{0, 65535, 0, 1}}, 0x0500, 0x0600));
        glyphs(least, 0, 0, 1, 6, 2, 0);
    }

    private static void wayLiesInTheMap() {
        Checks.sentence("and lies in cmap; otherwise 0");
        FontOutlines x = font(100, FontMaker.segmentMap(new int[][] {{65, 80, 5, 4}, {65534, 65535, 1, 65535}}, 7, 8));
        glyphs(x, 65, 12, 66, 13, 67, 0, 80, 0, 65534, 0, 65535, 0);
        byte[] half = new Data().all(FontMaker.segmentMap(new int[][] {{65, 80, 5, 4}, {65535, 65535, 1, 0}}, 7))
                .u8(0).done();
        glyphs(font(100, half), 65, 12, 66, 0);
        byte[] highHalf = new Data().all(FontMaker.segmentMap(new int[][] {{65, 80, 65536 - 250, 4},
            {65535, 65535, 1, 0}}, 256)).u8(1).done();
        glyphs(font(100, highHalf), 65, 6, 66, 0);
        byte[] whole = new Data().all(half).u8(9).done();
        glyphs(font(100, whole), 65, 12, 66, 14, 67, 0);
        FontOutlines far = font(100, FontMaker.segmentMap(new int[][] {{0, 65535, 5, 65534}}));
        glyphs(far, 0, 0, 65535, 0);
        wayAcrossTheWholeMap();
    }

    /** The farthest way that still lies in a large map; the table behind it in the file is not the map. */
    private static void wayAcrossTheWholeMap() {
        int words = 3000;
        int[] row = new int[words];
        row[words - 1] = 77;
        byte[] map = FontMaker.segmentMap(new int[][] {{0, 65535, 0, 2 * words}}, row);
        glyphs(font(100, map), 0, 77, 1, 0, 65535, 0);
        byte[] counted = FontMaker.segmentMap(new int[][] {{0, 65535, 0, 2}}, row);
        glyphs(font(100, counted), 0, 0, words - 2, 0, words - 1, 77, words, 0, words + 1, 0, 65535, 0);
    }

    private static void wayAndDelta() {
        Checks.sentence("if it is not 0 (and lies in cmap; otherwise 0), DELTA is added, modulo 65536.");
        FontOutlines x = font(100, FontMaker.segmentMap(new int[][] {{65, 70, 5, 4}, {65535, 65535, 1, 0}},
                0, 1, 94, 95, 65531, 65532));
        glyphs(x, 65, 0, 66, 6, 67, 99, 68, 0, 69, 0, 70, 1);
        FontOutlines around = font(100, FontMaker.segmentMap(new int[][] {{65, 68, 65535, 4},
            {65535, 65535, 1, 0}}, 0, 1, 50, 100));
        glyphs(around, 65, 0, 66, 0, 67, 49, 68, 99);
    }

    private static void notBelowN() {
        Checks.sentence("What is not below N is 0.");
        int[] counts = {1, 2, 5, 255, 256};
        for (int many : counts) {
            glyphs(font(many, FontMaker.groupMap(new long[] {0, 1000, 0})), many - 1, many - 1, many, 0,
                    many + 1, 0, 1000, 0);
            glyphs(font(many, FontMaker.segmentMap(new int[][] {{0, 65535, 0, 0}})), many - 1, many - 1, many, 0,
                    many + 1, 0, 65535, 0);
            glyphs(font(many, FontMaker.segmentMap(new int[][] {{0, 65535, 0, 2}}, many - 1, many, 65535)),
                    0, many - 1, 1, 0, 2, 0);
        }
        FontOutlines far = font(5, FontMaker.groupMap(new long[] {1, 1, 4}, new long[] {2, 2, 5},
                new long[] {3, 3, 65536}, new long[] {4, 4, 0x80000000L}, new long[] {5, 5, 0x80000001L},
                new long[] {6, 6, 0xffffffffL}));
        glyphs(far, 1, 4, 2, 0, 3, 0, 4, 0, 5, 0, 6, 0);
    }

    private static void whichMap() {
        Checks.sentence("The first one that begins with 3, 10 is the map, if there is one; otherwise the first one "
                + "with 3, 1");
        byte[] segments = FontMaker.segmentsOnly(new int[][] {{65, 65, 65536 - 64, 0}, {65535, 65535, 1, 0}});
        byte[] otherSegments = FontMaker.segmentsOnly(new int[][] {{65, 65, 65536 - 63, 0}, {65535, 65535, 1, 0}});
        byte[] groups = FontMaker.groupsOnly(new long[] {65, 65, 3});
        byte[] otherGroups = FontMaker.groupsOnly(new long[] {65, 65, 4});
        int behind = 4 + 8 * 4;
        int[] places = {behind, behind + segments.length, behind + segments.length + otherSegments.length,
            behind + segments.length + otherSegments.length + groups.length};
        int[][] kinds = {{1, 1, 10, 10}, {9, 1, 9, 9}, {1, 1, 9, 9}, {9, 1, 9, 10}, {9, 9, 10, 10}};
        int[] due = {3, 2, 1, 4, 3};
        for (int k = 0; k < kinds.length; k++) {
            Data data = new Data().u16(0, 4);
            for (int map = 0; map < 4; map++) {
                data.u16(3, kinds[k][map]).u32(places[map]);
            }
            data.all(segments).all(otherSegments).all(groups).all(otherGroups);
            FontOutlines x = font(5, data.done());
            glyphs(x, 65, due[k], 66, 0);
            int kind = due[k] > 2 ? 1 : 0;
            Checks.due("font(1)", () -> x.font(1), kind);
        }
    }
}
