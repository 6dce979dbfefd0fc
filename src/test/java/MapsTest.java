import java.util.Arrays;

/** Terms, FORMS: which map of cmap is the font's, and the forms of both kinds. What they answer: CharactersTest. */
final class MapsTest {
    private static final int FONT = 3;
    private static final byte[] SEGMENTS = FontMaker.segmentsOnly(new int[][] {{0, 65535, 1, 0}});
    private static final byte[] GROUPS = FontMaker.groupsOnly(new long[] {65, 66, 1});

    public static void main(String[] args) {
        rowsLieInIt();
        oneIsThere();
        firstOfGroups();
        otherwiseSegments();
        place();
        groupFormat();
        groupsLieInIt();
        firstNotAboveLast();
        allRising();
        lastCharacter();
        segmentFormat();
        twiceS();
        atLeastOneSegment();
        lastRising();
        lastOne();
        firstOfSegments();
        segmentsLieInIt();
        Checks.end();
    }

    private static FontMaker plain(byte[] cmap) {
        return new FontMaker().add(FontMaker.triangle(), FontMaker.triangle(), new byte[0]).withMap(cmap);
    }

    private static void map(String told, Data cmap, int want) {
        Checks.due(told, () -> plain(cmap.done()).loaded(), want);
    }

    private static Data one(int kind, byte[] map) {
        return new Data().u16(0, 1, 3, kind).u32(12).all(map);
    }

    private static void rowsLieInIt() {
        Checks.sentence("U16 at 2 the number of MAPS; from 4 on for each U16, U16, U32 (all of which lie in it).");
        map("cmap of no bytes", new Data(), FontOutlines.FORMS);
        map("cmap of 3 bytes", new Data().zeros(3), FontOutlines.FORMS);
        map("one row", one(1, SEGMENTS), FONT);
        map("the first number is free", new Data().u16(77, 1, 3, 1).u32(12).all(SEGMENTS), FONT);
        int rows = SEGMENTS.length / 8 + 2;
        int rest = 4 + 8 * rows - 12 - SEGMENTS.length;
        map("rows up to its end", new Data().u16(0, rows, 3, 1).u32(12).all(SEGMENTS).zeros(rest), FONT);
        map("a byte of the last row lacks", new Data().u16(0, rows, 3, 1).u32(12).all(SEGMENTS).zeros(rest - 1),
                FontOutlines.FORMS);
        map("a row too many", new Data().u16(0, rows + 1, 3, 1).u32(12).all(SEGMENTS).zeros(rest),
                FontOutlines.FORMS);
        map("65535 rows", new Data().u16(0, 65535, 3, 1).u32(12).all(SEGMENTS), FontOutlines.FORMS);
    }

    private static void oneIsThere() {
        Checks.sentence("one of them is there.");
        map("no maps", new Data().u16(0, 0), FontOutlines.FORMS);
        map("no maps, but one lies there", new Data().u16(0, 0, 3, 1).u32(12).all(SEGMENTS), FontOutlines.FORMS);
        int[][] others = {{0, 3}, {0, 1}, {0, 10}, {1, 1}, {1, 10}, {2, 10}, {4, 10}, {4, 1}, {3, 0}, {3, 2}, {3, 9},
            {3, 11}, {1, 3}, {10, 3}, {259, 1}, {3, 257}, {3, 266}};
        for (int[] other : others) {
            Data data = new Data().u16(0, 1, other[0], other[1]).u32(12);
            map("segments of " + Arrays.toString(other), data.all(SEGMENTS), FontOutlines.FORMS);
            Data more = new Data().u16(0, 1, other[0], other[1]).u32(12);
            map("groups of " + Arrays.toString(other), more.all(GROUPS), FontOutlines.FORMS);
            Data two = new Data().u16(0, 2, other[0], other[1]).u32(0).u16(3, 1).u32(20).all(SEGMENTS);
            map("segments behind " + Arrays.toString(other), two, FONT);
        }
        map("segments of 3, 1", one(1, SEGMENTS), FONT);
        map("groups of 3, 10", one(10, GROUPS), FONT);
        // Bytes 3 to 6 are the number 12 here, which must not be taken for the place of a map that is not there.
        map("no maps, but segments at 12", new Data().u16(0, 0, 0).u8(12).zeros(5).all(SEGMENTS), FontOutlines.FORMS);
    }

    /** Two rows; both tell the place of the same map, or of none. */
    private static Data two(int kind, int place, int otherKind, int otherPlace, byte[] map) {
        return new Data().u16(0, 2, 3, kind).u32(place).u16(3, otherKind).u32(otherPlace).all(map);
    }

    private static void firstOfGroups() {
        Checks.sentence("The first one that begins with 3, 10 is the map, if there is one");
        map("the second is wrong", two(10, 20, 10, 0, GROUPS), FONT);
        map("the first is wrong", two(10, 0, 10, 20, GROUPS), FontOutlines.FORMS);
        map("segments before are wrong", two(1, 0, 10, 20, GROUPS), FONT);
        map("segments behind are wrong", two(10, 20, 1, 0, GROUPS), FONT);
        map("segments before are right, groups wrong", two(1, 20, 10, 20, SEGMENTS), FontOutlines.FORMS);
        map("segments behind are right, groups wrong", two(10, 20, 1, 20, SEGMENTS), FontOutlines.FORMS);
    }

    private static void otherwiseSegments() {
        Checks.sentence("otherwise the first one with 3, 1");
        map("the second is wrong", two(1, 20, 1, 0, SEGMENTS), FONT);
        map("the first is wrong", two(1, 0, 1, 20, SEGMENTS), FontOutlines.FORMS);
        map("another before", two(0, 0, 1, 20, SEGMENTS), FONT);
        map("another behind", two(1, 20, 0, 0, SEGMENTS), FONT);
    }

    private static void place() {
        Checks.sentence("Its U32 is a place.");
        int[] kinds = {1, 10};
        for (int kind : kinds) {
            byte[] map = kind == 1 ? SEGMENTS : GROUPS;
            int end = 12 + map.length;
            map("12", new Data().u16(0, 1, 3, kind).u32(12).all(map), FONT);
            map("17", new Data().u16(0, 1, 3, kind).u32(17).zeros(5).all(map), FONT);
            long[] wrong = {11, 13, end - 1, end, end + 1, 65536 + 12, 0x7fffffffL, 0x80000000L, 0x8000000cL,
                0xfffffff4L, 0xffffffffL};
            for (long place : wrong) {
                map("place " + place, new Data().u16(0, 1, 3, kind).u32(place).all(map), FontOutlines.FORMS);
            }
        }
    }

    private static void groupFormat() {
        Checks.sentence("Of 3, 10: U16 12, U16, U32, U32, U32 n");
        int[] others = {0, 4, 8, 10, 11, 13, 268, 0x0c00, 65535};
        for (int format : others) {
            map("U16 " + format, one(10, new Data().u16(format, 0).u32(0, 0, 0).done()), FontOutlines.FORMS);
        }
        map("U16 12", one(10, new Data().u16(12, 0).u32(0, 0, 0).done()), FONT);
        map("the others are free", one(10, new Data().u16(12, 9).u32(-1, -1, 0).done()), FONT);
        map("segments", one(10, SEGMENTS), FontOutlines.FORMS);
    }

    private static void groupsLieInIt() {
        Checks.sentence("U32 n, n times U32 first, last, glyph");
        for (int many = 0; many <= 3; many++) {
            long[][] groups = new long[many][];
            for (int k = 0; k < many; k++) {
                groups[k] = new long[] {k, k, 0};
            }
            byte[] whole = FontMaker.groupMap(groups);
            map(many + " groups", new Data().all(whole), FONT);
            map(many + " groups, and more bytes", new Data().all(whole).zeros(5), FONT);
            int most = many == 0 ? 16 : 12;
            for (int cut = 1; cut <= most; cut++) {
                map(many + " groups without " + cut, new Data().all(Arrays.copyOf(whole, whole.length - cut)),
                        FontOutlines.FORMS);
            }
        }
        long[] counts = {2, 3, 256, 0x15555556L, 0x15555557L, 0x40000001L, 0x7fffffffL, 0x80000000L, 0x80000001L,
            0xffffffffL};
        for (long many : counts) {
            Data groups = new Data().u16(12, 0).u32(0, 0, many, 5, 6, 0);
            map(many + " groups, one there", one(10, groups.done()), FontOutlines.FORMS);
        }
    }

    private static void groups(int want, long[]... groups) {
        map("groups " + Arrays.deepToString(groups), new Data().all(FontMaker.groupMap(groups)), want);
    }

    private static long[] row(long first, long last) {
        return new long[] {first, last, 0xffffffffL};
    }

    private static void firstNotAboveLast() {
        Checks.sentence("first not above last");
        groups(FONT, row(7, 7));
        groups(FONT, row(6, 7));
        groups(FontOutlines.FORMS, row(8, 7));
        groups(FONT, row(0, 0));
        groups(FontOutlines.FORMS, row(1, 0));
        groups(FontOutlines.FORMS, row(0xffffffffL, 7));
        groups(FontOutlines.FORMS, row(0x80000000L, 0x7fffffffL));
        groups(FONT, row(0, 5), row(9, 9));
        groups(FontOutlines.FORMS, row(0, 5), row(9, 8));
        groups(FontOutlines.FORMS, row(6, 5), row(9, 9));
    }

    private static void allRising() {
        Checks.sentence("all rising");
        groups(FONT, row(1, 5), row(6, 7));
        groups(FontOutlines.FORMS, row(1, 5), row(5, 7));
        groups(FontOutlines.FORMS, row(1, 5), row(4, 7));
        groups(FontOutlines.FORMS, row(1, 5), row(1, 5));
        groups(FontOutlines.FORMS, row(10, 15), row(12, 13));
        groups(FontOutlines.FORMS, row(10, 15), row(6, 7));
        groups(FontOutlines.FORMS, row(10, 15), row(0, 9));
        groups(FONT, row(3, 3), row(4, 4), row(5, 5));
        groups(FontOutlines.FORMS, row(3, 3), row(4, 4), row(4, 4));
        groups(FontOutlines.FORMS, row(3, 3), row(3, 3), row(4, 4));
        groups(FontOutlines.FORMS, row(3, 3), row(5, 5), row(4, 4));
    }

    private static void lastCharacter() {
        Checks.sentence("the last not above 1114111.");
        groups(FONT, row(0, 1114110));
        groups(FONT, row(0, 1114111));
        groups(FontOutlines.FORMS, row(0, 1114112));
        groups(FONT, row(1114111, 1114111));
        groups(FontOutlines.FORMS, row(1114112, 1114112));
        groups(FONT, row(0, 9), row(10, 1114111));
        groups(FontOutlines.FORMS, row(0, 9), row(10, 1114112));
        groups(FontOutlines.FORMS, row(5, 0x7fffffffL));
        groups(FontOutlines.FORMS, row(5, 0x80000000L));
        groups(FontOutlines.FORMS, row(5, 0xffffffffL));
        groups(FontOutlines.FORMS, row(0xffffffffL, 0xffffffffL));
    }

    private static Data segmentHead(int format, int doubled) {
        return new Data().u16(0, 1, 3, 1).u32(12).u16(format, 0, 0, doubled, 0, 0, 0);
    }

    private static void segmentFormat() {
        Checks.sentence("Of 3, 1: U16 at 0 is 4");
        int[] others = {0, 2, 3, 5, 6, 12, 260, 0x0400, 65535};
        for (int format : others) {
            map("U16 at 0 is " + format, segmentHead(format, 2).u16(65535).zeros(8), FontOutlines.FORMS);
        }
        map("U16 at 0 is 4", segmentHead(4, 2).u16(65535).zeros(8), FONT);
        map("others are free", new Data().u16(0, 1, 3, 1).u32(12).u16(4, 9, 9, 2, 9, 9, 9, 65535, 9).zeros(6), FONT);
        map("groups", one(1, GROUPS), FontOutlines.FORMS);
    }

    private static void twiceS() {
        Checks.sentence("U16 at 6 is 2 S");
        map("2", segmentHead(4, 2).u16(65535).zeros(80), FONT);
        map("1", segmentHead(4, 1).u16(65535).zeros(80), FontOutlines.FORMS);
        map("3", segmentHead(4, 3).u16(65535).zeros(80), FontOutlines.FORMS);
        map("4", segmentHead(4, 4).u16(7, 65535).zeros(80), FONT);
        map("5", segmentHead(4, 5).u16(7, 65535).zeros(80), FontOutlines.FORMS);
        map("65535", segmentHead(4, 65535).u16(65535).zeros(80), FontOutlines.FORMS);
    }

    private static void atLeastOneSegment() {
        Checks.sentence("S at least 1");
        map("S is 0", segmentHead(4, 0).u16(65535).zeros(80), FontOutlines.FORMS);
        map("S is 1", segmentHead(4, 2).u16(65535).zeros(80), FONT);
    }

    private static void segments(int want, int[]... segments) {
        map("segments " + Arrays.deepToString(segments), new Data().all(FontMaker.segmentMap(segments)), want);
    }

    private static int[] segment(int first, int last) {
        return new int[] {first, last, 0, 0};
    }

    private static void lastRising() {
        Checks.sentence("S U16s from 14 on, LAST, rising");
        segments(FONT, segment(0, 65534), segment(0, 65535));
        segments(FontOutlines.FORMS, segment(0, 65535), segment(0, 65535));
        segments(FONT, segment(0, 8), segment(0, 9), segment(0, 65535));
        segments(FontOutlines.FORMS, segment(0, 9), segment(0, 9), segment(0, 65535));
        segments(FontOutlines.FORMS, segment(0, 9), segment(0, 8), segment(0, 65535));
        segments(FontOutlines.FORMS, segment(0, 65535), segment(0, 8), segment(0, 65535));
        segments(FONT, segment(0, 0), segment(1, 1), segment(65535, 65535));
        segments(FontOutlines.FORMS, segment(0, 0), segment(0, 0), segment(65535, 65535));
        segments(FONT, segment(0, 32767), segment(32768, 32768), segment(65535, 65535));
    }

    private static void lastOne() {
        Checks.sentence("the last one 65535");
        segments(FONT, segment(0, 65535));
        segments(FontOutlines.FORMS, segment(0, 65534));
        segments(FontOutlines.FORMS, segment(0, 0));
        segments(FONT, segment(0, 9), segment(10, 65535));
        segments(FontOutlines.FORMS, segment(0, 9), segment(10, 65534));
    }

    private static void firstOfSegments() {
        Checks.sentence("S U16s, FIRST, each not above its LAST");
        segments(FONT, segment(65535, 65535));
        segments(FONT, segment(9, 9), segment(65535, 65535));
        segments(FONT, segment(8, 9), segment(0, 65535));
        segments(FontOutlines.FORMS, segment(10, 9), segment(65535, 65535));
        segments(FontOutlines.FORMS, segment(65535, 9), segment(65535, 65535));
        segments(FontOutlines.FORMS, segment(0, 9), segment(11, 10), segment(65535, 65535));
        segments(FONT, segment(0, 9), segment(10, 10), segment(65535, 65535));
        segments(FONT, segment(0, 9), segment(5, 65535));
    }

    private static void segmentsLieInIt() {
        Checks.sentence("from 16 + 4 S on DELTA; from 16 + 6 S on WAY.");
        int[][][] maps = {{segment(0, 65535)}, {segment(0, 9), segment(3, 65535)},
            {segment(0, 9), segment(3, 20), segment(0, 65535)}};
        for (int[][] segments : maps) {
            byte[] whole = FontMaker.segmentMap(segments);
            map(segments.length + " segments", new Data().all(whole), FONT);
            map(segments.length + " segments and a byte", new Data().all(whole).zeros(1), FONT);
            for (int cut = 1; cut < whole.length - 12; cut++) {
                map(segments.length + " segments without " + cut,
                        new Data().all(Arrays.copyOf(whole, whole.length - cut)), FontOutlines.FORMS);
            }
        }
        segments(FONT, new int[] {0, 9, 65535, 65535}, new int[] {10, 65535, 65535, 60000});
        map("S is 32767", segmentHead(4, 65534).u16(65535).zeros(80), FontOutlines.FORMS);
    }
}
