import java.util.Arrays;

/** Terms, from LOADING to TABLES, and promise 6: what is wrong with a file first, and the font of before. */
final class LoadTest {
    private static final int FONT = 2;

    public static void main(String[] args) {
        order();
        formsBeforeGlyphs();
        tablesBeforeForms();
        version();
        numberOfTables();
        directory();
        namesRise();
        tablesLieWithinTheFile();
        sumsOnlyIfChecked();
        sumOfATable();
        zerosBehindTheEnd();
        sumModulo();
        tablesAreThere();
        otherTables();
        numberOfGlyphs();
        fontOfBefore();
        fontIsNotTheFile();
        fontAfterFaults();
        Checks.end();
    }

    private static FontMaker plain() {
        return new FontMaker().add(FontMaker.triangle(), new byte[0]);
    }

    private static int loaded(byte[] file, boolean checked) {
        FontOutlines x = new FontOutlines();
        FontMaker.feed(x, file);
        return x.load(checked);
    }

    private static void loads(String told, byte[] file, int want) {
        Checks.due(told, () -> loaded(file, false), want);
    }

    /** A plain font's file with one U32 changed. */
    private static byte[] changed(int place, long value) {
        byte[] file = plain().file();
        for (int k = 0; k < 4; k++) {
            file[place + k] = (byte) (value >> 8 * (3 - k));
        }
        return file;
    }

    private static Data begin(int tables) {
        return new Data().u32(65536).u16(tables).zeros(6);
    }

    /** Has every fault whose bit is set: FILE 0, SUMS 1, TABLES 2, FORMS 3, GLYPHS 4. */
    private static byte[] faulty(int faults) {
        FontMaker maker = new FontMaker().add((faults & 16) != 0 ? new byte[] {0, 1} : FontMaker.triangle());
        maker.add(new byte[0]);
        maker.em = (faults & 8) != 0 ? 15 : 1000;
        if ((faults & 4) != 0) {
            maker.with("maxp", null);
        }
        byte[] file = maker.file();
        if ((faults & 2) != 0) {
            file[19]++;
        }
        if ((faults & 1) != 0) {
            file[3] = 1;
        }
        return file;
    }

    private static int firstFault(int faults, boolean checked) {
        int counted = checked ? faults : faults & ~2;
        return counted == 0 ? FONT : -1 - Integer.numberOfTrailingZeros(counted);
    }

    private static void order() {
        Checks.sentence("LOADING finds a FONT, or, in this order, what is wrong: FILE, SUMS (only if they are to be "
                + "checked), TABLES, FORMS, GLYPHS.");
        for (int faults = 0; faults < 32; faults++) {
            byte[] file = faulty(faults);
            Checks.due("faults " + faults + ", checked", () -> loaded(file, true), firstFault(faults, true));
            Checks.due("faults " + faults + ", not checked", () -> loaded(file, false), firstFault(faults, false));
        }
    }

    private static void formsBeforeGlyphs() {
        Checks.sentence("FORMS, GLYPHS.");
        byte[] wrong = {0, 1};
        Checks.due("a wrong glyph", () -> new FontMaker().add(wrong).loaded(), FontOutlines.GLYPHS);
        for (String name : FontMaker.NAMES) {
            FontMaker maker = new FontMaker().add(wrong).with(name, new byte[1]);
            Checks.due("a wrong glyph and a wrong " + name, () -> maker.loaded(), FontOutlines.FORMS);
        }
    }

    private static void tablesBeforeForms() {
        Checks.sentence("TABLES, FORMS, GLYPHS.");
        for (String missing : FontMaker.NAMES) {
            for (String wrong : FontMaker.NAMES) {
                FontMaker maker = plain().with(wrong, new byte[1]);
                Checks.due("a wrong " + wrong, () -> maker.loaded(), FontOutlines.FORMS);
                maker.with(missing, null);
                Checks.due("and no " + missing, () -> maker.loaded(), FontOutlines.TABLES);
            }
        }
    }

    private static void version() {
        Checks.sentence("U32 at 0 is 65536");
        loads("65536", changed(0, 65536), FONT);
        long[] others = {65535, 65537, 0, 1, 256, 0x00010001L, 0x00010100L, 0x01010000L, 0x00020000L, 0x80010000L,
            FontMaker.number("OTTO"), FontMaker.number("true"), 0xffffffffL};
        for (long other : others) {
            loads("U32 at 0 is " + other, changed(0, other), FontOutlines.FILE);
        }
    }

    private static void numberOfTables() {
        Checks.sentence("U16 at 4 the number of tables, 1 .. 64");
        loads("no tables", begin(0).done(), FontOutlines.FILE);
        loads("no tables, seven there", changed(4, 0), FontOutlines.FILE);
        loads("1 table", begin(1).u32(7, 0, 0, 0).done(), FontOutlines.TABLES);
        loads("6 tables, seven there", changed(4, 6 << 16), FontOutlines.TABLES);
        loads("7 tables", changed(4, 7 << 16), FONT);
        loads("65535 tables", changed(4, 0xffff0000L), FontOutlines.FILE);
        FontMaker maker = plain();
        for (int k = 0; k < 57; k++) {
            maker.with("t" + (char) ('0' + k / 10) + (char) ('0' + k % 10) + " ", new byte[0]);
        }
        Checks.due("64 tables", () -> maker.loaded(), FONT);
        maker.with("u   ", new byte[0]);
        Checks.due("65 tables, all there", () -> maker.loaded(), FontOutlines.FILE);
        Data many = begin(256);
        for (int k = 0; k < 256; k++) {
            many.u32(k, 0, 0, 0);
        }
        loads("256 tables, all there", many.done(), FontOutlines.FILE);
    }

    /** The rows themselves must lie in the file, also if the tables that they tell do. */
    private static void directory() {
        Checks.sentence("from 12 on for each of them U32 its name (four letters as a number), its SUM, its place in "
                + "the file, its length.");
        byte[] one = begin(1).u32(7, 0, 0, 0).done();
        for (int length = 0; length <= one.length; length++) {
            loads("one row, of which there are " + length + " bytes", Arrays.copyOf(one, length),
                    length < one.length ? FontOutlines.FILE : FontOutlines.TABLES);
        }
        byte[] three = begin(3).u32(1, 0, 0, 0, 2, 0, 0, 0, 3, 0, 0, 0).done();
        loads("three rows", three, FontOutlines.TABLES);
        loads("three rows but for a byte", Arrays.copyOf(three, three.length - 1), FontOutlines.FILE);
        loads("what lies from 6 to 12 is free", changed(8, -1), FONT);
        loads("what lies at 6 is free", changed(4, (7 << 16) + 65535), FONT);
    }

    private static void names(int want, long... names) {
        Data data = begin(names.length);
        for (long name : names) {
            data.u32(name, 0, 0, 0);
        }
        loads("names " + Arrays.toString(names), data.done(), want);
    }

    private static void namesRise() {
        Checks.sentence("Names rise");
        names(FontOutlines.TABLES, 1, 2);
        names(FontOutlines.FILE, 1, 1);
        names(FontOutlines.FILE, 2, 1);
        names(FontOutlines.TABLES, 0, 1);
        names(FontOutlines.FILE, 0, 0);
        names(FontOutlines.TABLES, 0x7fffffffL, 0x80000000L);
        names(FontOutlines.FILE, 0x80000000L, 0x7fffffffL);
        names(FontOutlines.TABLES, 0xfffffffeL, 0xffffffffL);
        names(FontOutlines.FILE, 0xffffffffL, 0);
        names(FontOutlines.TABLES, 1, 2, 3);
        names(FontOutlines.FILE, 1, 3, 2);
        names(FontOutlines.FILE, 1, 3, 3);
        names(FontOutlines.FILE, 2, 1, 3);
        loads("a font's name again", changed(28, FontMaker.number("cmap")), FontOutlines.FILE);
        loads("the last name is another", changed(12 + 6 * 16, 0xff000000L), FontOutlines.TABLES);
    }

    private static void within(int want, long place, long length) {
        Data data = begin(3).u32(1, 0, 0, 0, 2, 0, place, length, 3, 0, 0, 0).zeros(10);
        loads("place " + place + ", length " + length + " of 70", data.done(), want);
        Data alone = begin(1).u32(2, 0, place, length).zeros(42);
        loads("the only table: place " + place + ", length " + length + " of 70", alone.done(), want);
    }

    private static void tablesLieWithinTheFile() {
        Checks.sentence("each table lies within the file.");
        long[][] within = {{0, 70}, {0, 0}, {69, 1}, {70, 0}, {60, 10}, {1, 69}};
        for (long[] row : within) {
            within(FontOutlines.TABLES, row[0], row[1]);
        }
        long[][] outside = {{0, 71}, {70, 1}, {69, 2}, {71, 0}, {60, 11}, {1, 70}, {0xffffffffL, 0}, {0xffffffffL, 1},
            {0xffffffffL, 2}, {1, 0xffffffffL}, {0, 0xffffffffL}, {0x80000000L, 0x80000000L}, {0, 0x80000000L},
            {0x80000000L, 0}, {0x7fffffffL, 1}, {0x7fffffffL, 0x7fffffffL}, {0x10000, 0}, {0, 0x10000}};
        for (long[] row : outside) {
            within(FontOutlines.FILE, row[0], row[1]);
        }
        byte[] font = plain().with("maxp", new Data().zeros(4).u16(2, 0).done()).file();
        loads("a font", font, FONT);
        loads("a byte of its last table is gone", Arrays.copyOf(font, font.length - 1), FontOutlines.FILE);
    }

    private static void sumsOnlyIfChecked() {
        Checks.sentence("SUMS (only if they are to be checked)");
        for (int k = 0; k < 7; k++) {
            for (int part = 0; part < 4; part++) {
                byte[] file = plain().file();
                file[12 + 16 * k + 4 + part] ^= 1;
                Checks.due("sum " + k + " checked", () -> loaded(file, true), FontOutlines.SUMS);
                Checks.due("sum " + k + " not checked", () -> loaded(file, false), FONT);
            }
        }
    }

    /** A file of one table; its words lie behind its row. With a right sum TABLES is what is wrong with it. */
    private static void sum(int want, long sum, long length, long... words) {
        byte[] file = begin(1).u32(7, sum, 28, length).u32(words).done();
        Checks.due("sum " + sum + " of " + length + " bytes", () -> loaded(file, true), want);
    }

    private static void sumOfATable() {
        Checks.sentence("the sum of a table's U32s");
        sum(FontOutlines.TABLES, 0, 0);
        sum(FontOutlines.SUMS, 1, 0);
        sum(FontOutlines.TABLES, 5, 4, 5);
        sum(FontOutlines.SUMS, 4, 4, 5);
        sum(FontOutlines.SUMS, 6, 4, 5);
        sum(FontOutlines.TABLES, 0x01020306L, 8, 0x01020304L, 2);
        sum(FontOutlines.SUMS, 0x01020304L, 8, 0x01020304L, 2);
        byte[] file = plain().with("zzzz", new byte[] {0, 0, 0, 1}).file();
        Checks.due("a table that no font needs", () -> loaded(file, true), FONT);
        file[12 + 16 * 7 + 7]++;
        Checks.due("its sum is wrong", () -> loaded(file, true), FontOutlines.SUMS);
        tableOnTheDirectory();
    }

    /** Tables may lie on one another, and on the beginning of the file. */
    private static void tableOnTheDirectory() {
        byte[] file = plain().with("zzzz", new byte[0]).file();
        int entry = 12 + 16 * 7;
        byte[] row = new Data().u32(65536 + (8 << 16) + FontMaker.number("cm") * 65536, 0, 14).done();
        System.arraycopy(row, 0, file, entry + 4, row.length);
        Checks.due("a table on the directory", () -> loaded(file, true), FONT);
        file[entry + 7]++;
        Checks.due("a wrong table on the directory", () -> loaded(file, true), FontOutlines.SUMS);
    }

    /** The bytes that lie behind a table's end in the file don't count, nor do those of a longer file of before. */
    private static void zerosBehindTheEnd() {
        Checks.sentence("zeros behind its end, if need be");
        long[] sums = {0, 0x11000000L, 0x11220000L, 0x11223300L, 0x11223344L, 0x66223344L, 0x66883344L, 0x6688aa44L,
            0x6688aaccL};
        for (int length = 0; length < sums.length; length++) {
            sum(FontOutlines.TABLES, sums[length], length, 0x11223344L, 0x55667788L, 0x99aabbccL);
            sum(FontOutlines.SUMS, sums[(length + 1) % sums.length], length, 0x11223344L, 0x55667788L, 0x99aabbccL);
            FontOutlines x = new FontOutlines();
            FontMaker.feed(x, begin(1).u32(7, sums[length], 28, length, 0x11223344L, 0x55667788L, 0x99aabbccL).done());
            x.cut(28 + length);
            Checks.due("the file ends with the table, of " + length, () -> x.load(true), FontOutlines.TABLES);
        }
    }

    private static void sumModulo() {
        Checks.sentence("modulo 2^32) is its SUM.");
        sum(FontOutlines.TABLES, 0xffffffffL, 4, 0xffffffffL);
        sum(FontOutlines.TABLES, 0xffffffffL, 8, 0xfffffffeL, 1);
        sum(FontOutlines.TABLES, 0, 8, 0xffffffffL, 1);
        sum(FontOutlines.TABLES, 1, 8, 0xffffffffL, 2);
        sum(FontOutlines.SUMS, 0xffffffffL, 8, 0xffffffffL, 1);
        sum(FontOutlines.TABLES, 0, 8, 0x80000000L, 0x80000000L);
        sum(FontOutlines.SUMS, 0x80000000L, 8, 0x80000000L, 0x80000000L);
        sum(FontOutlines.TABLES, 0x80000000L, 8, 0x7fffffffL, 1);
        sum(FontOutlines.TABLES, 0xfffffffdL, 12, -1, -1, -1);
        sum(FontOutlines.SUMS, 0xfffffffeL, 12, -1, -1, -1);
    }

    private static void tablesAreThere() {
        Checks.sentence("TABLES: cmap, glyf, head, hhea, hmtx, loca, maxp are there.");
        Checks.due("all of them", () -> plain().loaded(), FONT);
        for (String name : FontMaker.NAMES) {
            Checks.due("no " + name, () -> plain().with(name, null).loaded(), FontOutlines.TABLES);
            byte[] table = plain().tables().get(name);
            String next = name.substring(0, 3) + (char) (name.charAt(3) + 1);
            Checks.due(next + " instead", () -> plain().with(name, null).with(next, table).loaded(),
                    FontOutlines.TABLES);
            String large = Character.toUpperCase(name.charAt(0)) + name.substring(1);
            Checks.due(large + " instead", () -> plain().with(name, null).with(large, table).loaded(),
                    FontOutlines.TABLES);
            Checks.due(name + " of no bytes is there", () -> plain().with(name, new byte[0]).loaded(),
                    FontOutlines.FORMS);
        }
    }

    private static void otherTables() {
        Checks.sentence("are there.");
        Checks.due("others before and behind", () -> plain().with("AAAA", new byte[0]).with("zzzz", new byte[7])
                .loaded(), FONT);
        Checks.due("others between", () -> plain().with("gasp", new byte[3]).with("hdmx", new byte[0])
                .with("kern", new byte[5]).loaded(), FONT);
        Checks.due("others alone", () -> {
            FontMaker maker = plain().with("gasp", new byte[3]);
            for (String name : FontMaker.NAMES) {
                maker.with(name, null);
            }
            return maker.loaded();
        }, FontOutlines.TABLES);
    }

    private static void numberOfGlyphs() {
        Checks.sentence("LOADING, SUMS being checked or not: how many glyphs the font has");
        int[] counts = {1, 2, 3, 100, 255, 256};
        for (int many : counts) {
            FontMaker maker = new FontMaker();
            for (int g = 0; g < many; g++) {
                maker.add(new byte[0]);
            }
            FontOutlines x = maker.fed();
            Checks.due("a font of " + many, () -> x.load(true), many);
            Checks.due("once more", () -> x.load(false), many);
        }
    }

    private static void fontOfBefore() {
        Checks.sentence("or FILE to GLYPHS (the font of before stays, as it was).");
        for (int fault = 0; fault < 5; fault++) {
            FontOutlines x = otherFont().font();
            FontOutlines y = new FontOutlines();
            String before = State.ofFont(x);
            byte[] file = faulty(1 << fault);
            int want = -1 - fault;
            x.cut(0);
            FontMaker.feed(x, file);
            FontMaker.feed(y, file);
            Checks.due("a font before: load", () -> x.load(true), want);
            Checks.same("the font after " + want, State.ofFont(x), before);
            Checks.due("once more", () -> x.load(true), want);
            Checks.same("the font after " + want + " twice", State.ofFont(x), before);
            Checks.due("no font before: load", () -> y.load(true), want);
            Checks.same("no font after " + want, State.ofFont(y), Checks.STATE);
        }
        lastGlyphWrong();
        mapWrong();
    }

    private static FontMaker otherFont() {
        FontMaker maker = new FontMaker().add(FontMaker.heap(3), FontMaker.triangle(),
                FontMaker.composed(FontMaker.part(2 + 32, 1, 5, 5), FontMaker.part(2 + 512, 0, 7, -7)));
        maker.withMap(FontMaker.groupMap(new long[] {65, 66, 1}));
        maker.em = 2000;
        maker.widths = 2;
        maker.longPlaces = true;
        return maker;
    }

    /** All but the last glyph of the new file can be read. */
    private static void lastGlyphWrong() {
        FontOutlines x = otherFont().font();
        String before = State.ofFont(x);
        Checks.due("asked before", () -> x.measure(0, 2), 3);
        x.cut(0);
        FontMaker.feed(x, new FontMaker().add(FontMaker.heap(5), FontMaker.heap(6), new byte[] {9, 9}).file());
        Checks.due("wrong in its last glyph", () -> x.load(true), FontOutlines.GLYPHS);
        Checks.due("asked again", () -> x.measure(0, 2), 3);
        Checks.same("the font after all", State.ofFont(x), before);
    }

    /** All but the map, which is looked at last of the FORMS. */
    private static void mapWrong() {
        FontOutlines x = otherFont().font();
        String before = State.ofFont(x);
        x.cut(0);
        FontMaker.feed(x, plain().withMap(FontMaker.segmentMap(new int[][] {{0, 65534, 0, 0}})).file());
        Checks.due("wrong in its map", () -> x.load(true), FontOutlines.FORMS);
        Checks.same("the font after all", State.ofFont(x), before);
    }

    private static void fontIsNotTheFile() {
        Checks.sentence("LOADING finds a FONT");
        FontMaker maker = otherFont();
        FontOutlines x = maker.font();
        String before = State.ofFont(x);
        int glyf = 12 + 16 * 7 + (maker.cmap.length + 3) / 4 * 4;
        Checks.due("put changes the file", () -> x.put(glyf + 11, 1), 2);
        Checks.same("the font after put", State.ofFont(x), before);
        x.cut(3);
        Checks.same("the font after cut", State.ofFont(x), before);
        x.cut(0);
        FontMaker.feed(x, plain().file());
        Checks.same("the font after feed", State.ofFont(x), before);
        Checks.due("loaded", () -> x.load(true), FONT);
        Checks.same("the font is that of a new object", State.ofFont(x), State.ofFont(plain().font()));
        Checks.due("EM", () -> x.font(0), 1000);
    }

    /** Nothing of a file that was no font stays: each one is broken at another place, then a font is loaded. */
    private static void fontAfterFaults() {
        Checks.sentence("LOADING, SUMS being checked or not: how many glyphs the font has; or FILE to GLYPHS");
        FontOutlines x = new FontOutlines();
        for (int depth = 0; depth < 5; depth++) {
            FontMaker maker = deep(depth);
            byte[] font = maker.file();
            String due = State.ofFont(maker.font());
            byte[] whole = maker.glyphs.get(depth);
            for (int length = 1; length < whole.length; length++) {
                maker.glyphs.set(depth, Arrays.copyOf(whole, length));
                loadsAnew(x, maker.file(), FontOutlines.GLYPHS);
                loadsAnew(x, font, depth + 2);
                Checks.same("the font after " + length + " bytes of a glyph", State.ofFont(x), due);
            }
            for (int fault = 0; fault < 5; fault++) {
                loadsAnew(x, faulty(1 << fault), -1 - fault);
                loadsAnew(x, font, depth + 2);
                Checks.same("the font after " + (-1 - fault), State.ofFont(x), due);
            }
        }
    }

    /** Each glyph is a part of the one before it; that at the depth has two parts, both of them the last glyph. */
    private static FontMaker deep(int depth) {
        FontMaker maker = new FontMaker();
        for (int g = 0; g < depth; g++) {
            maker.add(FontMaker.composed(FontMaker.part(2, g + 1, g, 1)));
        }
        maker.add(FontMaker.composed(FontMaker.part(2 + 32 + 128, depth + 1, 5, 5, 16384, 0, 0, 16384),
                FontMaker.narrowPart(2, depth + 1, 7, 7)), FontMaker.triangle());
        maker.longPlaces = true;
        return maker;
    }

    private static void loadsAnew(FontOutlines x, byte[] file, int want) {
        x.cut(0);
        FontMaker.feed(x, file);
        Checks.due("load", () -> x.load(true), want);
    }
}
