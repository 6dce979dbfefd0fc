/** Promise 6: what is wrong with a file first (FILE, SUMS, TABLES and the order of all), and the font of before. */
final class LoadTest {
    public static void main(String[] args) {
        fonts();
        files();
        manyTables();
        sums();
        tables();
        order();
        fontOfBefore();
        Checks.end();
    }

    private static FontMaker plain() {
        return new FontMaker().add(FontMaker.triangle(), new byte[0]);
    }

    private static int loaded(byte[] file, boolean checked) {
        FontOutlines x = new FontOutlines();
        FontMaker.feed(x, file);
        return x.load(checked);
    }

    /** A plain font's file with one U32 changed. */
    private static byte[] changed(int place, long value) {
        byte[] file = plain().file();
        for (int k = 0; k < 4; k++) {
            file[place + k] = (byte) (value >> 8 * (3 - k));
        }
        return file;
    }

    private static void fonts() {
        Checks.due("plain font", () -> plain().loaded(), 2);
        FontMaker other = plain();
        other.longPlaces = true;
        Checks.due("plain font with U32 places", () -> other.loaded(), 2);
        Checks.due("font with other tables", () -> plain().with("AAAA", new byte[0]).with("zzzz", new byte[7])
                .loaded(), 2);
        FontMaker full = new FontMaker();
        for (int g = 0; g < 256; g++) {
            full.add(new byte[0]);
        }
        Checks.due("font of 256 glyphs", () -> full.loaded(), 256);
        FontOutlines x = plain().fed();
        Checks.due("load twice", () -> x.load(true), 2);
        Checks.due("load twice", () -> x.load(false), 2);
    }

    private static void files() {
        Checks.due("version", () -> loaded(changed(0, 65537), false), FontOutlines.FILE);
        Checks.due("version 'OTTO'", () -> loaded(changed(0, 0x4f54544f), false), FontOutlines.FILE);
        Checks.due("no tables", () -> loaded(changed(4, 0), false), FontOutlines.FILE);
        Checks.due("65 tables", () -> loaded(changed(4, 65 << 16), false), FontOutlines.FILE);
        Checks.due("65535 tables", () -> loaded(changed(4, 0xffff0000L), false), FontOutlines.FILE);
        Checks.due("what lies behind the number is free", () -> loaded(changed(8, -1), true), 2);
        Checks.due("a name again", () -> loaded(changed(28, FontMaker.number("cmap")), false), FontOutlines.FILE);
        Checks.due("a name that falls", () -> loaded(changed(28, FontMaker.number("aaaa")), false),
                FontOutlines.FILE);
        Checks.due("names rise without a sign", () -> loaded(changed(12 + 6 * 16, 0xff000000L), false),
                FontOutlines.TABLES);
        Checks.due("the first name is 0", () -> loaded(changed(12, 0), false), FontOutlines.TABLES);
        Checks.due("first name with a sign", () -> loaded(changed(12, 0xff000000L), false), FontOutlines.FILE);
        Checks.due("the last table is not counted", () -> loaded(changed(4, 6 << 16), false), FontOutlines.TABLES);
        int size = plain().file().length;
        Checks.due("place at the end, some length", () -> loaded(changed(20, size), false), FontOutlines.FILE);
        Checks.due("place far away", () -> loaded(changed(20, 0xfffffff0L), false), FontOutlines.FILE);
        Checks.due("length beyond the end", () -> loaded(changed(24, size - 123), false), FontOutlines.FILE);
        Checks.due("length far away", () -> loaded(changed(24, 0xffffffffL), false), FontOutlines.FILE);
        Checks.due("length of a sign", () -> loaded(changed(24, 0x80000000L), false), FontOutlines.FILE);
        Checks.due("length up to the end", () -> loaded(changed(24, size - 124), false), 2);
        shortFiles();
    }

    private static void shortFiles() {
        byte[] file = plain().file();
        for (int many = 0; many < 12 + 7 * 16; many++) {
            FontOutlines x = new FontOutlines();
            FontMaker.feed(x, file);
            x.cut(many);
            Checks.due("only " + many + " bytes", () -> x.load(true), FontOutlines.FILE);
        }
        byte[] emptyTables = new Data().u32(65536).u16(1).zeros(6).u32(7, 0, 28, 0).done();
        Checks.due("a table of nothing at the end", () -> loaded(emptyTables, true), FontOutlines.TABLES);
        byte[] behind = new Data().u32(65536).u16(1).zeros(6).u32(7, 0, 29, 0).done();
        Checks.due("a table of nothing behind the end", () -> loaded(behind, true), FontOutlines.FILE);
        byte[] last = new FontMaker().add(new byte[0]).with("maxp", null)
                .with("maxp", new Data().zeros(4).u16(1).u16(0).done()).file();
        FontOutlines x = new FontOutlines();
        FontMaker.feed(x, last);
        Checks.due("whole", () -> x.load(true), 1);
        x.cut(last.length - 1);
        Checks.due("a byte of the last table is gone", () -> x.load(true), FontOutlines.FILE);
    }

    private static void manyTables() {
        FontMaker maker = plain();
        for (int k = 0; k < 57; k++) {
            maker.with("t" + (char) ('0' + k / 10) + (char) ('0' + k % 10) + " ", new byte[0]);
        }
        Checks.due("64 tables", () -> maker.loaded(), 2);
        maker.with("u   ", new byte[0]);
        Checks.due("65 tables, all there", () -> maker.loaded(), FontOutlines.FILE);
    }

    private static void sums() {
        for (int k = 0; k < 7; k++) {
            int place = 12 + 16 * k + 4;
            byte[] file = plain().file();
            file[place + 3]++;
            Checks.due("sum " + k + " checked", () -> loaded(file, true), FontOutlines.SUMS);
            Checks.due("sum " + k + " not checked", () -> loaded(file, false), 2);
        }
        Checks.due("a sum beyond 2^32", () -> plain().with("zzzz", new Data().u32(-1, -1, -1).done()).loaded(), 2);
        for (int length = 0; length < 9; length++) {
            byte[] table = new byte[length];
            java.util.Arrays.fill(table, (byte) 0xa5);
            Checks.due("the sum of " + length + " bytes", () -> plain().with("zzzz", table).loaded(), 2);
        }
        zerosBehindTheEnd();
        tableOnTheDirectory();
    }

    /** Tables may lie on one another, and on the beginning of the file. */
    private static void tableOnTheDirectory() {
        byte[] file = plain().with("zzzz", new byte[0]).file();
        int entry = 12 + 16 * 7;
        byte[] row = new Data().u32(65536 + (8 << 16) + FontMaker.number("cm") * 65536, 0, 14).done();
        System.arraycopy(row, 0, file, entry + 4, row.length);
        Checks.due("a table on the directory", () -> loaded(file, true), 2);
        file[entry + 7]++;
        Checks.due("a wrong table on the directory", () -> loaded(file, true), FontOutlines.SUMS);
    }

    /** The bytes that lie behind a table's end in the file don't count. */
    private static void zerosBehindTheEnd() {
        byte[] file = plain().with("zzzz", new byte[] {1, 2, 3, 4, 5}).file();
        int length = file.length;
        file[length - 1] = 9;
        file[length - 3] = 9;
        Checks.due("bytes behind the end", () -> loaded(file, true), 2);
        FontOutlines x = new FontOutlines();
        FontMaker.feed(x, file);
        x.cut(length - 3);
        Checks.due("the file's end behind the table's", () -> x.load(true), 2);
    }

    private static void tables() {
        for (String name : FontMaker.NAMES) {
            Checks.due("no " + name, () -> plain().with(name, null).loaded(), FontOutlines.TABLES);
            Checks.due(name + " of no bytes", () -> plain().with(name, new byte[0]).loaded(), FontOutlines.FORMS);
        }
    }

    private static void order() {
        byte[] glyphs = new FontMaker().add(new byte[] {0, 1}).file();
        Checks.due("GLYPHS", () -> loaded(glyphs, true), FontOutlines.GLYPHS);
        FontMaker forms = new FontMaker().add(new byte[] {0, 1});
        forms.em = 1;
        Checks.due("FORMS before GLYPHS", () -> forms.loaded(), FontOutlines.FORMS);
        forms.with("maxp", null);
        Checks.due("TABLES before FORMS", () -> forms.loaded(), FontOutlines.TABLES);
        byte[] file = forms.file();
        file[19]++;
        Checks.due("SUMS before TABLES", () -> loaded(file, true), FontOutlines.SUMS);
        Checks.due("TABLES without SUMS", () -> loaded(file, false), FontOutlines.TABLES);
        file[24] = 1;
        Checks.due("FILE before SUMS", () -> loaded(file, true), FontOutlines.FILE);
        Checks.due("FILE without SUMS", () -> loaded(file, false), FontOutlines.FILE);
    }

    private static void fontOfBefore() {
        FontOutlines x = plain().font();
        Checks.due("point before", () -> x.point(0, 1, 0), 100);
        x.cut(0);
        Checks.due("no file", () -> x.load(false), FontOutlines.FILE);
        Checks.due("the font of before", () -> x.point(0, 2, 1), 80);
        FontMaker bad = new FontMaker().add(FontMaker.heap(5), FontMaker.heap(6), new byte[] {9, 9});
        bad.em = 2000;
        FontMaker.feed(x, bad.file());
        Checks.due("wrong in its last glyph", () -> x.load(true), FontOutlines.GLYPHS);
        Checks.due("points of before", () -> x.measure(0, 2), 3);
        Checks.due("width of before", () -> x.measure(1, 0), 101);
        Checks.due("em of before", () -> x.font(0), 1000);
        Checks.dueThrow("no third glyph", () -> x.measure(2, 0), Checks.INDEX);
        x.cut(0);
        FontMaker good = new FontMaker().add(FontMaker.heap(5), FontMaker.heap(6), FontMaker.heap(7));
        good.em = 2000;
        FontMaker.feed(x, good.file());
        Checks.due("fed, not loaded", () -> x.measure(0, 2), 3);
        Checks.due("loaded", () -> x.load(true), 3);
        Checks.due("the new font", () -> x.measure(0, 2), 5);
        Checks.due("the new em", () -> x.font(0), 2000);
        int glyf = 12 + 16 * 7 + good.cmap.length;
        Checks.due("put changes the file", () -> x.put(glyf + 11, 3), 4);
        Checks.due("put does not change the font", () -> x.measure(0, 2), 5);
        Checks.due("nor a glyph not read so far", () -> x.measure(2, 2), 7);
    }
}
