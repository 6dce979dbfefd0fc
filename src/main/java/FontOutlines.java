import java.util.Arrays;

/** Font files read throughout, as ../shared/DOC.md promises; words in capitals are the document's. */
public final class FontOutlines {
    public static final int NONE = -1;
    public static final int FILE = -1;
    public static final int SUMS = -2;
    public static final int TABLES = -3;
    public static final int FORMS = -4;
    public static final int GLYPHS = -5;

    private static final int NOTHING_WRONG = 0;

    private static final int MOST_BYTES = 16384;
    private static final int FED_BYTES = 20;
    private static final int FIRST_ROOM = 256;

    private static final int VERSION = 65536;
    private static final int MOST_TABLES = 64;
    private static final int DIRECTORY = 12;
    private static final int ENTRY = 16;

    private static final int CMAP = 0x636d6170;
    private static final int GLYF = 0x676c7966;
    private static final int HEAD = 0x68656164;
    private static final int HHEA = 0x68686561;
    private static final int HMTX = 0x686d7478;
    private static final int LOCA = 0x6c6f6361;
    private static final int MAXP = 0x6d617870;

    private static final int LEAST_EM = 16;
    private static final int GREATEST_EM = 16384;
    private static final int MOST_GLYPHS = 256;

    private static final int MAP_MAKER = 3;
    private static final int GROUP_MAP = 10;
    private static final int SEGMENT_MAP = 1;
    private static final int GROUP_FORMAT = 12;
    private static final int SEGMENT_FORMAT = 4;
    private static final int LAST_CHARACTER = 1114111;
    private static final int LAST_SHORT = 65535;
    private static final long U32_BITS = 0xffffffffL;

    private static final int MOST_CONTOURS = 32;
    private static final int MOST_SIMPLE_POINTS = 256;
    private static final int MOST_POINTS = 512;
    private static final int LEAST_COORDINATE = -16384;
    private static final int GREATEST_COORDINATE = 16383;
    private static final int COMPOSED = -1;
    private static final int BOX_BYTES = 8;

    private static final int ON = 1;
    private static final int X_SHORT = 1 << 1;
    private static final int Y_SHORT = 1 << 2;
    private static final int REPEATED = 1 << 3;
    private static final int X_SAME = 1 << 4;
    private static final int Y_SAME = 1 << 5;

    private static final int MOST_PARTS = 16;
    private static final int MOST_PARTS_READ = 64;
    private static final int DEEPEST = 6;

    private static final int SIXTEEN_BITS = 1;
    private static final int MOVED = 1 << 1;
    private static final int ONE_FACTOR = 1 << 3;
    private static final int FOLLOWED = 1 << 5;
    private static final int TWO_FACTORS = 1 << 6;
    private static final int FOUR_FACTORS = 1 << 7;
    private static final int FACTORS = ONE_FACTOR | TWO_FACTORS | FOUR_FACTORS;
    private static final int GIVES_WIDTH = 1 << 9;
    private static final int MOVE_TURNED = 1 << 11;
    private static final int ONE = 16384;
    private static final int ONE_SHIFT = 14;

    private final Bytes file;
    private final Outline outline;
    private Font current;
    private Font spare;
    private boolean loaded;
    private int shown;

    public FontOutlines() {
        file = new Bytes();
        current = new Font();
        spare = new Font();
        outline = new Outline(file);
        loaded = false;
        shown = NONE;
    }

    public int feed(int a, int b, int c, int d, int e) {
        if (file.size > MOST_BYTES - FED_BYTES) {
            return NONE;
        }
        file.makeRoom(file.size + FED_BYTES);
        file.addWord(a);
        file.addWord(b);
        file.addWord(c);
        file.addWord(d);
        file.addWord(e);
        return file.size;
    }

    public int put(int i, int b) throws IndexOutOfBoundsException, IllegalArgumentException {
        if (i < 0 || i >= file.size) {
            throw new IndexOutOfBoundsException("no such byte");
        }
        if (b < 0 || b > 255) {
            throw new IllegalArgumentException("not a byte");
        }
        int before = file.u8(i);
        file.change(i, b);
        return before;
    }

    public int at(int i) {
        return i >= 0 && i < file.size ? file.u8(i) : NONE;
    }

    public int cut(int many) throws IllegalArgumentException {
        if (many < 0) {
            throw new IllegalArgumentException("fewer bytes than none");
        }
        int gone = many < file.size ? file.size - many : 0;
        file.size -= gone;
        return gone;
    }

    public int load(boolean checked) {
        // The outline's rows are used to read all glyphs of the new file, be it a font or not.
        shown = NONE;
        spare.takeFile(file);
        int wrong = spare.firstWrong(checked);
        if (wrong != NOTHING_WRONG) {
            return wrong;
        }
        if (!outline.readsAll(spare)) {
            return GLYPHS;
        }
        Font before = current;
        current = spare;
        spare = before;
        loaded = true;
        return current.glyphs;
    }

    public int glyph(int c) throws IllegalStateException, IllegalArgumentException {
        needFont();
        if (c < 0 || c > LAST_CHARACTER) {
            throw new IllegalArgumentException("no such character");
        }
        long glyph = current.map.glyphOf(c);
        return glyph < current.glyphs ? (int) glyph : 0;
    }

    public int measure(int glyph, int what) throws IllegalStateException, IndexOutOfBoundsException {
        needFont();
        if (!isGlyph(glyph) || what < 0 || what > 7) {
            throw new IndexOutOfBoundsException("no such glyph, or measure");
        }
        show(glyph);
        switch (what) {
            case 0:
                return current.widthOf(outline.widthGlyph);
            case 1:
                return current.leftOf(outline.widthGlyph);
            case 2:
                return outline.points;
            case 3:
                return outline.contours;
            case 4:
                return outline.least(outline.x);
            case 5:
                return outline.least(outline.y);
            case 6:
                return outline.greatest(outline.x);
            default:
                return outline.greatest(outline.y);
        }
    }

    public int point(int glyph, int i, int what) throws IllegalStateException, IndexOutOfBoundsException {
        needFont();
        if (!isGlyph(glyph) || what < 0 || what > 3) {
            throw new IndexOutOfBoundsException("no such glyph, or what");
        }
        show(glyph);
        if (i < 0 || i >= outline.points) {
            throw new IndexOutOfBoundsException("no such point");
        }
        switch (what) {
            case 0:
                return outline.x[i];
            case 1:
                return outline.y[i];
            case 2:
                return outline.flags[i] & ON;
            default:
                return outline.contour[i];
        }
    }

    public int font(int what) throws IllegalStateException, IndexOutOfBoundsException {
        needFont();
        if (what < 0 || what > 1) {
            throw new IndexOutOfBoundsException("no such what");
        }
        if (what == 0) {
            return current.em;
        }
        return current.map.ofGroups ? 1 : 0;
    }

    private void needFont() {
        if (!loaded) {
            throw new IllegalStateException("no font");
        }
    }

    private boolean isGlyph(int glyph) {
        return glyph >= 0 && glyph < current.glyphs;
    }

    /** Points are often asked for one after another: the glyph read last is kept. */
    private void show(int glyph) {
        if (shown != glyph) {
            outline.readGlyph(current, glyph);
            shown = glyph;
        }
    }

    /** A file's bytes. The row grows with them, so that objects with small files take little room. */
    private static final class Bytes {
        private byte[] row;
        private int size;

        Bytes() {
            row = new byte[FIRST_ROOM];
            size = 0;
        }

        void makeRoom(int needed) {
            if (needed > row.length && needed <= MOST_BYTES) {
                row = Arrays.copyOf(row, Math.min(MOST_BYTES, Math.max(needed, 2 * row.length)));
            }
        }

        void addWord(int word) {
            if (size + 4 > row.length) {
                return;
            }
            row[size] = (byte) (word >> 24);
            row[size + 1] = (byte) (word >> 16);
            row[size + 2] = (byte) (word >> 8);
            row[size + 3] = (byte) word;
            size += 4;
        }

        void change(int i, int b) {
            if (i >= 0 && i < size) {
                row[i] = (byte) b;
            }
        }

        int u8(int i) {
            return i >= 0 && i < size ? row[i] & 255 : 0;
        }

        void copy(Bytes other) {
            makeRoom(other.size);
            if (other.size <= row.length) {
                System.arraycopy(other.row, 0, row, 0, other.size);
                size = other.size;
            }
        }
    }

    /** A stretch of a file; behind its end there are zeros, as SUMS want them. */
    private static final class Table {
        private final Bytes file;
        private int start;
        private int length;

        Table(Bytes file) {
            this.file = file;
            start = 0;
            length = 0;
        }

        void lay(int start, int length) {
            this.start = start;
            this.length = length;
        }

        boolean holds(long from, long many) {
            return from >= 0 && many >= 0 && from + many <= length;
        }

        int u8(int i) {
            int place = start + i;
            return i >= 0 && i < length && place >= 0 && place < file.size ? file.row[place] & 255 : 0;
        }

        int u16(int i) {
            return (u8(i) << 8) | u8(i + 1);
        }

        int s16(int i) {
            return (short) u16(i);
        }

        long u32(int i) {
            return ((long) u8(i) << 24) | (u8(i + 1) << 16) | (u8(i + 2) << 8) | u8(i + 3);
        }
    }

    /** A file's copy, its tables, and what their FORMS say. */
    private static final class Font {
        private final Bytes bytes;
        private final Table whole;
        private final Table summed;
        private final Table cmap;
        private final Table glyf;
        private final Table head;
        private final Table hhea;
        private final Table hmtx;
        private final Table loca;
        private final Table maxp;
        private final CharacterMap map;
        private int em;
        private int glyphs;
        private int widths;
        private boolean longPlaces;

        Font() {
            bytes = new Bytes();
            whole = new Table(bytes);
            summed = new Table(bytes);
            cmap = new Table(bytes);
            glyf = new Table(bytes);
            head = new Table(bytes);
            hhea = new Table(bytes);
            hmtx = new Table(bytes);
            loca = new Table(bytes);
            maxp = new Table(bytes);
            map = new CharacterMap(cmap);
        }

        void takeFile(Bytes file) {
            bytes.copy(file);
            whole.lay(0, bytes.size);
        }

        /** All but GLYPHS, for which the outlines have to be read. */
        int firstWrong(boolean checked) {
            if (!isFile()) {
                return FILE;
            }
            if (checked && !hasSums()) {
                return SUMS;
            }
            if (!hasTables()) {
                return TABLES;
            }
            if (!hasCounts() || !hasPlaces() || !map.isFound()) {
                return FORMS;
            }
            return NOTHING_WRONG;
        }

        private int tables() {
            return whole.u16(4);
        }

        private boolean isFile() {
            int many = tables();
            if (whole.u32(0) != VERSION || many < 1 || many > MOST_TABLES
                    || !whole.holds(DIRECTORY, ENTRY * many)) {
                return false;
            }
            long before = -1;
            for (int k = 0; k < many; k++) {
                int entry = DIRECTORY + ENTRY * k;
                long name = whole.u32(entry);
                if (name <= before || !whole.holds(whole.u32(entry + 8), whole.u32(entry + 12))) {
                    return false;
                }
                before = name;
            }
            return true;
        }

        private boolean hasSums() {
            int many = tables();
            for (int k = 0; k < many; k++) {
                int entry = DIRECTORY + ENTRY * k;
                layByEntry(summed, entry);
                if (sum(summed) != whole.u32(entry + 4)) {
                    return false;
                }
            }
            return true;
        }

        private long sum(Table table) {
            long sum = 0;
            for (int i = 0; i < table.length; i += 4) {
                sum += table.u32(i);
            }
            return sum & U32_BITS;
        }

        private boolean hasTables() {
            return finds(cmap, CMAP) && finds(glyf, GLYF) && finds(head, HEAD) && finds(hhea, HHEA)
                    && finds(hmtx, HMTX) && finds(loca, LOCA) && finds(maxp, MAXP);
        }

        private boolean finds(Table table, int name) {
            int many = tables();
            for (int k = 0; k < many; k++) {
                int entry = DIRECTORY + ENTRY * k;
                if (whole.u32(entry) == name) {
                    layByEntry(table, entry);
                    return true;
                }
            }
            return false;
        }

        private void layByEntry(Table table, int entry) {
            table.lay((int) whole.u32(entry + 8), (int) whole.u32(entry + 12));
        }

        private boolean hasCounts() {
            if (head.length < 54 || maxp.length < 6 || hhea.length < 36) {
                return false;
            }
            em = head.u16(18);
            longPlaces = head.u16(50) == 1;
            glyphs = maxp.u16(4);
            widths = hhea.u16(34);
            return em >= LEAST_EM && em <= GREATEST_EM && head.u16(50) <= 1
                    && glyphs >= 1 && glyphs <= MOST_GLYPHS
                    && widths >= 1 && widths <= glyphs
                    && hmtx.length >= 4 * widths + 2 * (glyphs - widths);
        }

        private boolean hasPlaces() {
            if (!loca.holds(0, (glyphs + 1) * (longPlaces ? 4 : 2))) {
                return false;
            }
            long before = 0;
            for (int g = 0; g <= glyphs; g++) {
                long place = dataPlace(g);
                if (place < before) {
                    return false;
                }
                before = place;
            }
            return before <= glyf.length;
        }

        long dataPlace(int glyph) {
            return longPlaces ? loca.u32(4 * glyph) : 2 * loca.u16(2 * glyph);
        }

        int widthOf(int glyph) {
            return hmtx.u16(4 * Math.min(glyph, widths - 1));
        }

        int leftOf(int glyph) {
            return glyph < widths ? hmtx.s16(4 * glyph + 2) : hmtx.s16(4 * widths + 2 * (glyph - widths));
        }
    }

    /** The font's map: one of groups (3, 10), or one of segments (3, 1). */
    private static final class CharacterMap {
        private final Table cmap;
        private boolean ofGroups;
        private int place;
        private int many;

        CharacterMap(Table cmap) {
            this.cmap = cmap;
            ofGroups = false;
            place = 0;
            many = 0;
        }

        boolean isFound() {
            int maps = cmap.u16(2);
            if (!cmap.holds(4, 8 * maps)) {
                return false;
            }
            int entry = firstEntry(maps, GROUP_MAP);
            ofGroups = entry != NONE;
            if (!ofGroups) {
                entry = firstEntry(maps, SEGMENT_MAP);
            }
            if (entry == NONE || cmap.u32(entry + 4) > cmap.length) {
                return false;
            }
            place = (int) cmap.u32(entry + 4);
            return ofGroups ? hasGroups() : hasSegments();
        }

        private int firstEntry(int maps, int kind) {
            for (int k = 0; k < maps; k++) {
                int entry = 4 + 8 * k;
                if (cmap.u16(entry) == MAP_MAKER && cmap.u16(entry + 2) == kind) {
                    return entry;
                }
            }
            return NONE;
        }

        private boolean hasGroups() {
            if (!cmap.holds(place, 16) || cmap.u16(place) != GROUP_FORMAT) {
                return false;
            }
            long groups = cmap.u32(place + 12);
            if (!cmap.holds(place + 16, 12 * groups)) {
                return false;
            }
            many = (int) groups;
            long before = -1;
            for (int k = 0; k < many; k++) {
                int group = place + 16 + 12 * k;
                long first = cmap.u32(group);
                long last = cmap.u32(group + 4);
                if (first <= before || last < first) {
                    return false;
                }
                before = last;
            }
            return before <= LAST_CHARACTER;
        }

        private boolean hasSegments() {
            if (!cmap.holds(place, 16) || cmap.u16(place) != SEGMENT_FORMAT) {
                return false;
            }
            int doubled = cmap.u16(place + 6);
            if (doubled < 2 || doubled % 2 != 0 || !cmap.holds(place, 16 + 4 * doubled)) {
                return false;
            }
            many = doubled / 2;
            int before = -1;
            for (int k = 0; k < many; k++) {
                int last = lastOf(k);
                if (last <= before || firstOf(k) > last) {
                    return false;
                }
                before = last;
            }
            return before == LAST_SHORT;
        }

        private int lastOf(int segment) {
            return cmap.u16(place + 14 + 2 * segment);
        }

        private int firstOf(int segment) {
            return cmap.u16(place + 16 + 2 * many + 2 * segment);
        }

        /** As the map has it; it need not be a glyph of the font. */
        long glyphOf(int c) {
            if (ofGroups) {
                return glyphByGroups(c);
            }
            return c <= LAST_SHORT ? glyphBySegments(c) : 0;
        }

        private long glyphByGroups(int c) {
            for (int k = 0; k < many; k++) {
                int group = place + 16 + 12 * k;
                long first = cmap.u32(group);
                if (first <= c && c <= cmap.u32(group + 4)) {
                    return (cmap.u32(group + 8) + (c - first)) & U32_BITS;
                }
            }
            return 0;
        }

        private int glyphBySegments(int c) {
            for (int k = 0; k < many; k++) {
                if (lastOf(k) >= c) {
                    return firstOf(k) > c ? 0 : glyphBySegment(k, c);
                }
            }
            return 0;
        }

        private int glyphBySegment(int segment, int c) {
            int delta = cmap.u16(place + 16 + 4 * many + 2 * segment);
            int wayPlace = place + 16 + 6 * many + 2 * segment;
            int way = cmap.u16(wayPlace);
            if (way == 0) {
                return (c + delta) & LAST_SHORT;
            }
            int listed = wayPlace + way + 2 * (c - firstOf(segment));
            if (!cmap.holds(listed, 2) || cmap.u16(listed) == 0) {
                return 0;
            }
            return (cmap.u16(listed) + delta) & LAST_SHORT;
        }
    }

    /** Reads on and on in a glyph's DATA, and remembers whether it came to their end too early. */
    private static final class Cursor {
        private Bytes file;
        private int place;
        private int end;
        private boolean ranOut;

        Cursor(Bytes file) {
            this.file = file;
            place = 0;
            end = 0;
            ranOut = false;
        }

        void begin(Table table, int from, int to) {
            file = table.file;
            place = table.start + from;
            end = Math.min(table.start + to, file.size);
            ranOut = false;
        }

        void follow(Cursor other) {
            file = other.file;
            place = other.place;
            end = other.end;
            ranOut = other.ranOut;
        }

        int u8() {
            if (place < 0 || end - place < 1) {
                ranOut = true;
                return 0;
            }
            int value = file.row[place] & 255;
            place++;
            return value;
        }

        int u16() {
            if (place < 0 || end - place < 2) {
                ranOut = true;
                return 0;
            }
            int value = ((file.row[place] & 255) << 8) | (file.row[place + 1] & 255);
            place += 2;
            return value;
        }

        void pass(int many) {
            if (many > end - place) {
                ranOut = true;
            } else {
                place += many;
            }
        }
    }

    /** The PART that is being read of a composed glyph. */
    private static final class Part {
        private final Cursor data;
        private int flags;
        private int child;
        private int p;
        private int q;
        private int a;
        private int b;
        private int c;
        private int d;

        Part(Bytes file) {
            data = new Cursor(file);
        }

        boolean has(int flag) {
            return (flags & flag) != 0;
        }

        boolean isRead() {
            flags = data.u16();
            child = data.u16();
            p = number();
            q = number();
            readFactors();
            return !data.ranOut && Integer.bitCount(flags & FACTORS) <= 1;
        }

        private int number() {
            if (has(SIXTEEN_BITS)) {
                int wide = data.u16();
                return has(MOVED) ? (short) wide : wide;
            }
            int narrow = data.u8();
            return has(MOVED) ? (byte) narrow : narrow;
        }

        private void readFactors() {
            a = ONE;
            b = 0;
            c = 0;
            d = ONE;
            if (has(ONE_FACTOR)) {
                a = (short) data.u16();
                d = a;
            } else if (has(TWO_FACTORS)) {
                a = (short) data.u16();
                d = (short) data.u16();
            } else if (has(FOUR_FACTORS)) {
                a = (short) data.u16();
                b = (short) data.u16();
                c = (short) data.u16();
                d = (short) data.u16();
            }
        }

        int turnedX(int x, int y) {
            return (int) (((long) a * x + (long) c * y) >> ONE_SHIFT);
        }

        int turnedY(int x, int y) {
            return (int) (((long) b * x + (long) d * y) >> ONE_SHIFT);
        }
    }

    /** The points of one glyph; its rows are used for one glyph after another. */
    private static final class Outline {
        private final int[] x;
        private final int[] y;
        private final int[] flags;
        private final int[] contour;
        private final Cursor data;
        private final Part[] parts;
        private int points;
        private int contours;
        private int partsRead;
        private int widthGlyph;

        Outline(Bytes file) {
            x = new int[MOST_POINTS];
            y = new int[MOST_POINTS];
            flags = new int[MOST_POINTS];
            contour = new int[MOST_POINTS];
            data = new Cursor(file);
            // One for each depth: a part waits while the parts of its own glyph are read.
            parts = new Part[DEEPEST];
            for (int k = 0; k < DEEPEST; k++) {
                parts[k] = new Part(file);
            }
        }

        boolean readsAll(Font font) {
            for (int g = 0; g < font.glyphs; g++) {
                if (!readGlyph(font, g)) {
                    return false;
                }
            }
            return true;
        }

        boolean readGlyph(Font font, int glyph) {
            points = 0;
            contours = 0;
            partsRead = 0;
            return addsGlyph(font, glyph, 0);
        }

        /** The glyph's points are laid behind those that are there; depth counts the glyphs round it. */
        private boolean addsGlyph(Font font, int glyph, int depth) {
            if (depth >= DEEPEST || glyph >= font.glyphs) {
                return false;
            }
            widthGlyph = glyph;
            int from = (int) font.dataPlace(glyph);
            int end = (int) font.dataPlace(glyph + 1);
            if (from == end) {
                return true;
            }
            data.begin(font.glyf, from, end);
            int kind = (short) data.u16();
            data.pass(BOX_BYTES);
            if (data.ranOut) {
                return false;
            }
            if (kind == COMPOSED) {
                parts[depth].data.follow(data);
                return addsParts(font, glyph, depth);
            }
            return kind >= 0 && kind <= MOST_CONTOURS && addsSimple(kind);
        }

        private boolean addsSimple(int many) {
            int first = points;
            return addsContours(many) && readsFlags(first)
                    && readsAxis(x, first, X_SHORT, X_SAME) && readsAxis(y, first, Y_SHORT, Y_SAME);
        }

        private boolean addsContours(int many) {
            int first = points;
            int before = -1;
            for (int k = 0; k < many; k++) {
                int last = data.u16();
                if (last <= before || last >= MOST_SIMPLE_POINTS || first + last >= MOST_POINTS) {
                    return false;
                }
                for (int i = before + 1; i <= last; i++) {
                    contour[first + i] = contours + k;
                }
                before = last;
            }
            points = first + before + 1;
            contours += many;
            data.pass(data.u16());
            return !data.ranOut;
        }

        private boolean readsFlags(int first) {
            int flag = 0;
            int again = 0;
            for (int i = first; i < points; i++) {
                if (again > 0) {
                    again--;
                } else {
                    flag = data.u8();
                    again = (flag & REPEATED) != 0 ? data.u8() : 0;
                }
                flags[i] = flag;
            }
            return again == 0 && !data.ranOut;
        }

        private boolean readsAxis(int[] row, int first, int shortBit, int sameBit) {
            int value = 0;
            for (int i = first; i < points; i++) {
                boolean same = (flags[i] & sameBit) != 0;
                if ((flags[i] & shortBit) != 0) {
                    int step = data.u8();
                    value += same ? step : -step;
                } else if (!same) {
                    value += (short) data.u16();
                }
                if (!isCoordinate(value)) {
                    return false;
                }
                row[i] = value;
            }
            return !data.ranOut;
        }

        private boolean isCoordinate(int value) {
            return value >= LEAST_COORDINATE && value <= GREATEST_COORDINATE;
        }

        private boolean addsParts(Font font, int glyph, int depth) {
            Part part = parts[depth];
            int own = points;
            int giver = glyph;
            boolean followed = true;
            for (int k = 0; k < MOST_PARTS && followed; k++) {
                partsRead++;
                int first = points;
                if (partsRead > MOST_PARTS_READ || !part.isRead()
                        || !addsGlyph(font, part.child, depth + 1) || !isLaid(part, own, first)) {
                    return false;
                }
                if (part.has(GIVES_WIDTH)) {
                    giver = widthGlyph;
                }
                followed = part.has(FOLLOWED);
            }
            widthGlyph = giver;
            return !followed;
        }

        /** The part's points lie from first on, those of the parts before it from own on. */
        private boolean isLaid(Part part, int own, int first) {
            int moveX = part.p;
            int moveY = part.q;
            if (!part.has(MOVED)) {
                if (part.p >= first - own || part.q >= points - first) {
                    return false;
                }
                int fixed = own + part.p;
                int laid = first + part.q;
                moveX = x[fixed] - part.turnedX(x[laid], y[laid]);
                moveY = y[fixed] - part.turnedY(x[laid], y[laid]);
            } else if (part.has(MOVE_TURNED)) {
                moveX = part.turnedX(part.p, part.q);
                moveY = part.turnedY(part.p, part.q);
            }
            for (int i = first; i < points; i++) {
                int newX = part.turnedX(x[i], y[i]) + moveX;
                int newY = part.turnedY(x[i], y[i]) + moveY;
                if (!isCoordinate(newX) || !isCoordinate(newY)) {
                    return false;
                }
                x[i] = newX;
                y[i] = newY;
            }
            return true;
        }

        int least(int[] row) {
            if (points == 0) {
                return 0;
            }
            int least = row[0];
            for (int i = 1; i < points; i++) {
                least = Math.min(least, row[i]);
            }
            return least;
        }

        int greatest(int[] row) {
            if (points == 0) {
                return 0;
            }
            int greatest = row[0];
            for (int i = 1; i < points; i++) {
                greatest = Math.max(greatest, row[i]);
            }
            return greatest;
        }
    }
}
