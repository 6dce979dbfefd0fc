import java.util.ArrayList;
import java.util.List;
import java.util.TreeMap;

/** Makes font files: right in all things, unless a test puts something wrong into a table. */
final class FontMaker {
    static final String[] NAMES = {"cmap", "glyf", "head", "hhea", "hmtx", "loca", "maxp"};

    int em = 1000;
    boolean longPlaces = false;
    int widths = 0;
    byte[] cmap = segmentMap(new int[][] {{65535, 65535, 1, 0}});
    final List<byte[]> glyphs = new ArrayList<>();
    /** Tables that stand in the place of those made (null: left out), or beside them. */
    final TreeMap<String, byte[]> others = new TreeMap<>();

    FontMaker add(byte[]... more) {
        for (byte[] glyph : more) {
            glyphs.add(glyph);
        }
        return this;
    }

    FontMaker with(String name, byte[] table) {
        others.put(name, table);
        return this;
    }

    FontMaker withMap(byte[] table) {
        cmap = table;
        return this;
    }

    /** Glyph g's WIDTH is 100 + g, its LEFT g - 5, where none is told. */
    byte[] hmtx() {
        Data data = new Data();
        for (int g = 0; g < glyphs.size(); g++) {
            if (g < broad()) {
                data.u16(100 + g);
            }
            data.u16(g - 5);
        }
        return data.done();
    }

    int broad() {
        return widths == 0 ? glyphs.size() : widths;
    }

    byte[] loca() {
        Data data = new Data();
        int place = 0;
        place(data, place);
        for (byte[] glyph : glyphs) {
            place += padded(glyph);
            place(data, place);
        }
        return data.done();
    }

    private void place(Data data, int place) {
        if (longPlaces) {
            data.u32(place);
        } else {
            data.u16(place / 2);
        }
    }

    private int padded(byte[] glyph) {
        return longPlaces ? glyph.length : (glyph.length + 1) / 2 * 2;
    }

    byte[] glyf() {
        Data data = new Data();
        for (byte[] glyph : glyphs) {
            data.all(glyph).zeros(padded(glyph) - glyph.length);
        }
        return data.done();
    }

    byte[] head() {
        return new Data().zeros(18).u16(em).zeros(30).u16(longPlaces ? 1 : 0).zeros(2).done();
    }

    byte[] hhea() {
        return new Data().zeros(34).u16(broad()).done();
    }

    byte[] maxp() {
        return new Data().zeros(4).u16(glyphs.size()).done();
    }

    TreeMap<String, byte[]> tables() {
        TreeMap<String, byte[]> tables = new TreeMap<>();
        byte[][] made = {cmap, glyf(), head(), hhea(), hmtx(), loca(), maxp()};
        for (int k = 0; k < NAMES.length; k++) {
            tables.put(NAMES[k], made[k]);
        }
        for (String name : others.keySet()) {
            if (others.get(name) == null) {
                tables.remove(name);
            } else {
                tables.put(name, others.get(name));
            }
        }
        return tables;
    }

    byte[] file() {
        TreeMap<String, byte[]> tables = tables();
        Data directory = new Data().u32(65536).u16(tables.size()).zeros(6);
        Data rest = new Data();
        int begin = 12 + 16 * tables.size();
        for (String name : tables.keySet()) {
            byte[] table = tables.get(name);
            directory.u32(number(name), sum(table), begin + rest.size(), table.length);
            rest.all(table).zeros((4 - table.length % 4) % 4);
        }
        return directory.all(rest.done()).done();
    }

    static long number(String name) {
        long number = 0;
        for (char letter : name.toCharArray()) {
            number = number << 8 | letter;
        }
        return number;
    }

    static long sum(byte[] table) {
        long sum = 0;
        for (int i = 0; i < table.length; i++) {
            sum += (long) (table[i] & 255) << 8 * (3 - i % 4);
        }
        return sum & 0xffffffffL;
    }

    /** A cmap with one map of 3, 1; each segment is FIRST, LAST, DELTA, WAY; then words are laid behind. */
    static byte[] segmentMap(int[][] segments, int... words) {
        return new Data().u16(0, 1, 3, 1).u32(12).all(segmentsOnly(segments, words)).done();
    }

    static byte[] segmentsOnly(int[][] segments, int... words) {
        Data data = new Data().u16(4, 0, 0, 2 * segments.length, 0, 0, 0);
        int[] columns = {1, 0, 2, 3};
        for (int column : columns) {
            for (int[] segment : segments) {
                data.u16(segment[column]);
            }
            if (column == 1) {
                data.u16(0);
            }
        }
        return data.u16(words).done();
    }

    /** A cmap with one map of 3, 10; each group is first, last, glyph. */
    static byte[] groupMap(long[]... groups) {
        return new Data().u16(0, 1, 3, 10).u32(12).all(groupsOnly(groups)).done();
    }

    static byte[] groupsOnly(long[]... groups) {
        Data data = new Data().u16(12, 0).u32(0, 0, groups.length);
        for (long[] group : groups) {
            data.u32(group);
        }
        return data.done();
    }

    /** A simple glyph whose steps are all S16s; each point is x, y, on; ends are the contours' last points. */
    static byte[] simple(int[] ends, int[]... points) {
        Data data = new Data().u16(ends.length).zeros(8).u16(ends).u16(0);
        for (int[] point : points) {
            data.u8(point[2]);
        }
        for (int axis = 0; axis < 2; axis++) {
            int before = 0;
            for (int[] point : points) {
                data.u16(point[axis] - before);
                before = point[axis];
            }
        }
        return data.done();
    }

    static byte[] triangle() {
        return simple(new int[] {2}, new int[] {0, 0, 1}, new int[] {100, 0, 1}, new int[] {50, 80, 0});
    }

    /** So many points at 0, 0 in one contour, with few bytes. */
    static byte[] heap(int points) {
        Data data = new Data().u16(1).zeros(8).u16(points - 1, 0);
        for (int left = points; left > 0; left -= 256) {
            data.u8(0x39, Math.min(left, 256) - 1);
        }
        return data.done();
    }

    static byte[] composed(byte[]... parts) {
        Data data = new Data().u16(-1).zeros(8);
        for (byte[] part : parts) {
            data.all(part);
        }
        return data.done();
    }

    /** A part with p and q of 16 bits (bit 0 is set beside the flags), then F's. */
    static byte[] part(int flags, int glyph, int p, int q, int... factors) {
        return new Data().u16(flags | 1, glyph, p, q).u16(factors).done();
    }

    /** A part with p and q of 8 bits, then F's. */
    static byte[] narrowPart(int flags, int glyph, int p, int q, int... factors) {
        return new Data().u16(flags, glyph).u8(p, q).u16(factors).done();
    }

    /** A new object with this file fed into it. */
    FontOutlines fed() {
        FontOutlines fonts = new FontOutlines();
        feed(fonts, file());
        return fonts;
    }

    static void feed(FontOutlines fonts, byte[] file) {
        int size = 0;
        int fed = 0;
        for (int i = 0; i < file.length; i += 20) {
            size = fonts.feed(word(file, i), word(file, i + 4), word(file, i + 8), word(file, i + 12),
                    word(file, i + 16));
            fed += 20;
        }
        fonts.cut(size - (fed - file.length));
    }

    private static int word(byte[] file, int i) {
        int word = 0;
        for (int k = i; k < i + 4; k++) {
            word = word << 8 | (k < file.length ? file[k] & 255 : 0);
        }
        return word;
    }

    /** What load answers for this file, sums checked. */
    int loaded() {
        return fed().load(true);
    }

    /** An object that has this font; a test that gets none would test nothing. */
    FontOutlines font() {
        FontOutlines fonts = fed();
        int many = fonts.load(true);
        if (many != glyphs.size()) {
            throw new IllegalStateException("not a font: " + many);
        }
        return fonts;
    }
}
