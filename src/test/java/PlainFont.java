import java.math.BigInteger;
import java.util.ArrayList;
import java.util.HashMap;
import java.util.List;
import java.util.Map;
import java.util.TreeMap;

/** The document's Terms once more, in another way: slow, with exceptions and lists, all glyphs read at once. */
final class PlainFont {
    /** What is wrong with the file. */
    static final class Wrong extends RuntimeException {
        private static final long serialVersionUID = 1L;
        final int what;

        Wrong(int what) {
            this.what = what;
        }
    }

    /** x, y, ON, contour. */
    record Point(int x, int y, int on, int contour) {
    }

    record Glyph(List<Point> points, int contours, int depth, int parts, int width, int left) {
    }

    private static final class Reader {
        final byte[] bytes;
        final int wrong;
        int place;

        Reader(byte[] bytes, int place, int wrong) {
            this.bytes = bytes;
            this.place = place;
            this.wrong = wrong;
        }

        long number(int size) {
            need(place >= 0 && place + size <= bytes.length);
            long value = new BigInteger(1, java.util.Arrays.copyOfRange(bytes, place, place + size)).longValue();
            place += size;
            return value;
        }

        int u8() {
            return (int) number(1);
        }

        int u16() {
            return (int) number(2);
        }

        int s8() {
            int value = u8();
            return value > 127 ? value - 256 : value;
        }

        int s16() {
            int value = u16();
            return value > 32767 ? value - 65536 : value;
        }

        long u32() {
            return number(4);
        }

        void need(boolean right) {
            if (!right) {
                throw new Wrong(wrong);
            }
        }
    }

    private final TreeMap<Long, byte[]> tables = new TreeMap<>();
    private final Map<Integer, Glyph> read = new HashMap<>();
    private final List<long[]> groups = new ArrayList<>();
    private final List<int[]> segments = new ArrayList<>();
    private byte[] cmap;
    private int[] places;
    private int widths;
    int em;
    int glyphs;
    boolean ofGroups;

    PlainFont(byte[] file, boolean checked) {
        List<Boolean> sums = readFile(file);
        if (checked && sums.contains(false)) {
            throw new Wrong(FontOutlines.SUMS);
        }
        for (String name : FontMaker.NAMES) {
            if (!tables.containsKey(FontMaker.number(name))) {
                throw new Wrong(FontOutlines.TABLES);
            }
        }
        readCounts();
        readPlaces();
        readMaps();
        for (int g = 0; g < glyphs; g++) {
            glyphAt(g, new ArrayList<>());
        }
    }

    private List<Boolean> readFile(byte[] file) {
        Reader in = new Reader(file, 0, FontOutlines.FILE);
        in.need(in.u32() == 65536);
        int many = in.u16();
        in.need(many >= 1 && many <= 64);
        in.place = 12;
        List<Boolean> sums = new ArrayList<>();
        for (int k = 0; k < many; k++) {
            long name = in.u32();
            in.need(tables.isEmpty() || name > tables.lastKey());
            long sum = in.u32();
            long place = in.u32();
            long length = in.u32();
            in.need(place + length <= file.length);
            byte[] table = java.util.Arrays.copyOfRange(file, (int) place, (int) (place + length));
            tables.put(name, table);
            sums.add(sum == FontMaker.sum(table));
        }
        return sums;
    }

    private Reader form(String name, int place) {
        return new Reader(tables.get(FontMaker.number(name)), place, FontOutlines.FORMS);
    }

    private int length(String name) {
        return tables.get(FontMaker.number(name)).length;
    }

    private void readCounts() {
        em = form("head", 18).u16();
        int wide = form("head", 50).u16();
        glyphs = form("maxp", 4).u16();
        widths = form("hhea", 34).u16();
        boolean right = length("head") >= 54 && em >= 16 && em <= 16384 && wide <= 1
                && glyphs >= 1 && glyphs <= 256 && widths >= 1 && widths <= glyphs
                && length("hmtx") >= 4 * widths + 2 * (glyphs - widths);
        if (!right) {
            throw new Wrong(FontOutlines.FORMS);
        }
    }

    private void readPlaces() {
        boolean wide = form("head", 50).u16() == 1;
        Reader loca = form("loca", 0);
        places = new int[glyphs + 1];
        long before = 0;
        for (int g = 0; g <= glyphs; g++) {
            long place = wide ? loca.u32() : 2L * loca.u16();
            loca.need(place >= before && place <= length("glyf"));
            places[g] = (int) place;
            before = place;
        }
    }

    private void readMaps() {
        cmap = tables.get(FontMaker.number("cmap"));
        Reader in = form("cmap", 2);
        int many = in.u16();
        List<Long> ofKind10 = new ArrayList<>();
        List<Long> ofKind1 = new ArrayList<>();
        for (int k = 0; k < many; k++) {
            long kind = in.u32();
            long place = in.u32();
            if (kind == 3 * 65536 + 10) {
                ofKind10.add(place);
            }
            if (kind == 3 * 65536 + 1) {
                ofKind1.add(place);
            }
        }
        ofGroups = !ofKind10.isEmpty();
        in.need(ofGroups || !ofKind1.isEmpty());
        long place = ofGroups ? ofKind10.get(0) : ofKind1.get(0);
        in.need(place <= cmap.length);
        if (ofGroups) {
            readGroups(form("cmap", (int) place));
        } else {
            readSegments((int) place);
        }
    }

    private void readGroups(Reader in) {
        in.need(in.u16() == 12);
        in.u16();
        in.u32();
        in.u32();
        long many = in.u32();
        for (long k = 0; k < many; k++) {
            long[] group = {in.u32(), in.u32(), in.u32()};
            in.need(group[0] <= group[1] && group[1] <= 1114111);
            in.need(groups.isEmpty() || group[0] > groups.get(groups.size() - 1)[1]);
            groups.add(group);
        }
    }

    private void readSegments(int place) {
        Reader in = form("cmap", place);
        in.need(in.u16() == 4);
        in.place = place + 6;
        int many = in.u16();
        in.need(many >= 2 && many % 2 == 0);
        for (int k = 0; k < many / 2; k++) {
            int way = place + 16 + 3 * many + 2 * k;
            int[] segment = {form("cmap", place + 14 + 2 * k).u16(), form("cmap", place + 16 + many + 2 * k).u16(),
                form("cmap", place + 16 + 2 * many + 2 * k).u16(), form("cmap", way).u16(), way};
            in.need(segment[1] <= segment[0]);
            in.need(k == 0 || segment[0] > segments.get(k - 1)[0]);
            segments.add(segment);
        }
        in.need(segments.get(segments.size() - 1)[0] == 65535);
    }

    int glyphOf(int c) {
        long found = ofGroups ? byGroups(c) : bySegments(c);
        return found >= glyphs ? 0 : (int) found;
    }

    private long byGroups(int c) {
        for (long[] group : groups) {
            if (c >= group[0] && c <= group[1]) {
                return (group[2] + c - group[0]) % 4294967296L;
            }
        }
        return 0;
    }

    private int bySegments(int c) {
        for (int[] segment : segments) {
            if (segment[0] < c) {
                continue;
            }
            if (segment[1] > c) {
                return 0;
            }
            if (segment[3] == 0) {
                return (c + segment[2]) % 65536;
            }
            int place = segment[4] + segment[3] + 2 * (c - segment[1]);
            if (place + 2 > cmap.length) {
                return 0;
            }
            int listed = form("cmap", place).u16();
            return listed == 0 ? 0 : (listed + segment[2]) % 65536;
        }
        return 0;
    }

    private int[] measures(int g) {
        int width = form("hmtx", 4 * Math.min(g, widths - 1)).u16();
        int left = form("hmtx", g < widths ? 4 * g + 2 : 4 * widths + 2 * (g - widths)).s16();
        return new int[] {width, left};
    }

    Glyph glyphAt(int g) {
        return read.get(g);
    }

    private Glyph glyphAt(int g, List<Integer> round) {
        if (round.contains(g)) {
            throw new Wrong(FontOutlines.GLYPHS);
        }
        Glyph glyph = read.get(g);
        if (glyph == null) {
            List<Integer> within = new ArrayList<>(round);
            within.add(g);
            glyph = readGlyph(g, within);
            boolean right = glyph.depth() <= 6 && glyph.parts() <= 64 && glyph.points().size() <= 512;
            for (Point point : glyph.points()) {
                right &= point.x() >= -16384 && point.x() <= 16383 && point.y() >= -16384 && point.y() <= 16383;
            }
            if (!right) {
                throw new Wrong(FontOutlines.GLYPHS);
            }
            read.put(g, glyph);
        }
        return glyph;
    }

    private Glyph readGlyph(int g, List<Integer> round) {
        byte[] data = java.util.Arrays.copyOfRange(tables.get(FontMaker.number("glyf")), places[g], places[g + 1]);
        int[] measures = measures(g);
        if (data.length == 0) {
            return new Glyph(new ArrayList<>(), 0, 1, 0, measures[0], measures[1]);
        }
        Reader in = new Reader(data, 0, FontOutlines.GLYPHS);
        int kind = in.s16();
        in.need(kind >= -1 && kind <= 32);
        in.place = 10;
        if (kind == -1) {
            return readParts(in, measures, round);
        }
        return new Glyph(readPoints(in, kind), kind, 1, 0, measures[0], measures[1]);
    }

    private List<Point> readPoints(Reader in, int contours) {
        List<Integer> contourOf = new ArrayList<>();
        for (int k = 0; k < contours; k++) {
            int end = in.u16();
            in.need(end >= contourOf.size() && end < 256);
            while (contourOf.size() <= end) {
                contourOf.add(k);
            }
        }
        int passed = in.u16();
        for (int k = 0; k < passed; k++) {
            in.u8();
        }
        List<Integer> flags = new ArrayList<>();
        while (flags.size() < contourOf.size()) {
            int flag = in.u8();
            flags.add(flag);
            if ((flag & 8) != 0) {
                int again = in.u8();
                for (int k = 0; k < again; k++) {
                    flags.add(flag);
                }
            }
        }
        in.need(flags.size() == contourOf.size());
        int[] x = readAxis(in, flags, 1, 4);
        int[] y = readAxis(in, flags, 2, 5);
        List<Point> points = new ArrayList<>();
        for (int i = 0; i < flags.size(); i++) {
            points.add(new Point(x[i], y[i], flags.get(i) % 2, contourOf.get(i)));
        }
        return points;
    }

    private int[] readAxis(Reader in, List<Integer> flags, int shortBit, int sameBit) {
        int[] row = new int[flags.size()];
        int before = 0;
        for (int i = 0; i < row.length; i++) {
            boolean isShort = (flags.get(i) >> shortBit) % 2 == 1;
            boolean same = (flags.get(i) >> sameBit) % 2 == 1;
            int step = isShort ? in.u8() * (same ? 1 : -1) : same ? 0 : in.s16();
            row[i] = before + step;
            before = row[i];
        }
        return row;
    }

    private Glyph readParts(Reader in, int[] measures, List<Integer> round) {
        List<Point> points = new ArrayList<>();
        int contours = 0;
        int depth = 0;
        int parts = 0;
        int own = 0;
        boolean more = true;
        while (more) {
            own++;
            in.need(own <= 16);
            int flags = in.u16();
            int child = in.u16();
            in.need(child < glyphs);
            boolean moved = (flags & 2) != 0;
            int[] pq = new int[2];
            for (int k = 0; k < 2; k++) {
                pq[k] = (flags & 1) != 0 ? (moved ? in.s16() : in.u16()) : moved ? in.s8() : in.u8();
            }
            int[] turn = readTurn(in, flags);
            Glyph part = glyphAt(child, round);
            parts += 1 + part.parts();
            depth = Math.max(depth, part.depth());
            List<Point> turned = new ArrayList<>();
            for (Point point : part.points()) {
                turned.add(turned(turn, point));
            }
            Point move = new Point(pq[0], pq[1], 0, 0);
            if (!moved) {
                in.need(pq[0] < points.size() && pq[1] < turned.size());
                Point there = points.get(pq[0]);
                Point here = turned.get(pq[1]);
                move = new Point(there.x() - here.x(), there.y() - here.y(), 0, 0);
            } else if ((flags & 2048) != 0) {
                move = turned(turn, move);
            }
            for (Point point : turned) {
                points.add(new Point(point.x() + move.x(), point.y() + move.y(), point.on(),
                        contours + point.contour()));
            }
            contours += part.contours();
            if ((flags & 512) != 0) {
                measures = new int[] {part.width(), part.left()};
            }
            more = (flags & 32) != 0;
        }
        return new Glyph(points, contours, depth + 1, parts, measures[0], measures[1]);
    }

    private int[] readTurn(Reader in, int flags) {
        int one = flags >> 3 & 1;
        int two = flags >> 6 & 1;
        int four = flags >> 7 & 1;
        in.need(one + two + four <= 1);
        int[] turn = {16384, 0, 0, 16384};
        if (one == 1) {
            turn[0] = in.s16();
            turn[3] = turn[0];
        }
        if (two == 1) {
            turn[0] = in.s16();
            turn[3] = in.s16();
        }
        for (int k = 0; k < 4 * four; k++) {
            turn[k] = in.s16();
        }
        return turn;
    }

    private Point turned(int[] turn, Point point) {
        long x = (long) turn[0] * point.x() + (long) turn[2] * point.y();
        long y = (long) turn[1] * point.x() + (long) turn[3] * point.y();
        return new Point((int) Math.floorDiv(x, 16384L), (int) Math.floorDiv(y, 16384L), point.on(),
                point.contour());
    }
}
