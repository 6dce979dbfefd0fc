import java.util.Arrays;
import java.util.Random;

/** Promises 6 to 10 on many made-up fonts, whole and broken, against the plain reader. */
final class ManyFontsTest {
    private static final int RUNS = 4000;

    private final Random random;
    private final int[] answers = new int[6];
    private final FontOutlines fonts;
    private PlainFont loaded = null;

    private ManyFontsTest(long seed, FontOutlines fonts) {
        random = new Random(seed);
        this.fonts = fonts;
    }

    public static void main(String[] args) {
        long first = args.length > 0 ? Long.parseLong(args[0]) : 1;
        int runs = args.length > 1 ? Integer.parseInt(args[1]) : RUNS;
        int[] all = new int[6];
        for (int run = 0; run < runs; run++) {
            ManyFontsTest test = new ManyFontsTest(first + run, new FontOutlines());
            test.run("seed " + (first + run));
            for (int k = 0; k < all.length; k++) {
                all[k] += test.answers[k];
            }
        }
        System.out.println("fonts, FILE, SUMS, TABLES, FORMS, GLYPHS: " + Arrays.toString(all));
        for (int k = 0; k < all.length; k++) {
            Checks.same("answer " + -k + " was met often", (all[k] > runs / 50) + "", "true");
        }
        Checks.end();
    }

    private void run(String told) {
        for (int round = 0; round < 2; round++) {
            fonts.cut(0);
            byte[] file = randomFont().file();
            FontMaker.feed(fonts, file);
            load(told, file);
            for (int k = 0; k < 6; k++) {
                for (int many = 1 + random.nextInt(2); many > 0; many--) {
                    change(file);
                }
                load(told, file);
            }
            int left = random.nextInt(file.length + 1);
            fonts.cut(left);
            load(told, Arrays.copyOf(file, left));
        }
    }

    /** Bytes of the directory and of small tables are the most telling ones; some changes are taken back. */
    private void change(byte[] file) {
        int place = random.nextInt(3) == 0 ? random.nextInt(Math.min(file.length, 140)) : random.nextInt(file.length);
        int before = file[place] & 255;
        int value;
        switch (random.nextInt(4)) {
            case 0:
                value = random.nextInt(256);
                break;
            case 1:
                value = before ^ 1 << random.nextInt(8);
                break;
            case 2:
                value = before + 1 & 255;
                break;
            default:
                value = before - 1 & 255;
                break;
        }
        Checks.due("put(" + place + ", " + value + ")", () -> fonts.put(place, value), before);
        file[place] = (byte) value;
    }

    private void load(String told, byte[] file) {
        boolean checked = random.nextInt(4) == 0;
        int want;
        try {
            loaded = new PlainFont(file, checked);
            want = loaded.glyphs;
        } catch (PlainFont.Wrong wrong) {
            want = wrong.what;
        }
        answers[want < 0 ? -want : 0]++;
        Checks.due(told + ": load(" + checked + ")", () -> fonts.load(checked), want);
        ask(told);
    }

    private void ask(String told) {
        if (loaded == null) {
            Checks.dueThrow(told + ": glyph", () -> fonts.glyph(random.nextInt()), Checks.STATE);
            Checks.dueThrow(told + ": measure", () -> fonts.measure(0, 0), Checks.STATE);
            return;
        }
        Checks.due(told + ": em", () -> fonts.font(0), loaded.em);
        Checks.due(told + ": map", () -> fonts.font(1), loaded.ofGroups ? 1 : 0);
        for (int k = 0; k < 20; k++) {
            int c = k < 12 ? random.nextInt(140) : random.nextInt(k < 16 ? 65536 + 100 : 1114112);
            Checks.due(told + ": glyph(" + c + ")", () -> fonts.glyph(c), loaded.glyphOf(c));
        }
        for (int g = 0; g < loaded.glyphs; g++) {
            askGlyph(told + ": glyph " + g, g, loaded.glyphAt(g));
        }
    }

    private void askGlyph(String told, int g, PlainFont.Glyph glyph) {
        int[] box = {0, 0, 0, 0};
        for (int i = 0; i < glyph.points().size(); i++) {
            PlainFont.Point point = glyph.points().get(i);
            boolean first = i == 0;
            box[0] = first ? point.x() : Math.min(box[0], point.x());
            box[1] = first ? point.y() : Math.min(box[1], point.y());
            box[2] = first ? point.x() : Math.max(box[2], point.x());
            box[3] = first ? point.y() : Math.max(box[3], point.y());
            int[] due = {point.x(), point.y(), point.on(), point.contour()};
            for (int what = 0; what < 4; what++) {
                int number = i;
                int which = what;
                Checks.due(told + ", point " + i + ", " + what, () -> fonts.point(g, number, which), due[what]);
            }
        }
        int[] due = {glyph.width(), glyph.left(), glyph.points().size(), glyph.contours(), box[0], box[1], box[2],
            box[3]};
        for (int what = 0; what < 8; what++) {
            int which = what;
            Checks.due(told + ", measure " + what, () -> fonts.measure(g, which), due[what]);
        }
        Checks.dueThrow(told + ", no such point", () -> fonts.point(g, glyph.points().size(), 0), Checks.INDEX);
    }

    private FontMaker randomFont() {
        FontMaker maker = new FontMaker();
        int many = 1 + random.nextInt(random.nextInt(4) == 0 ? 30 : 10);
        maker.longPlaces = random.nextBoolean();
        maker.widths = random.nextInt(many + 1);
        maker.em = 16 + random.nextInt(16369);
        maker.withMap(random.nextBoolean() ? randomGroups(many) : randomSegments(many));
        for (int g = 0; g < many; g++) {
            maker.add(randomGlyph(g, many));
        }
        if (random.nextInt(10) == 0) {
            maker.with(FontMaker.NAMES[random.nextInt(7)], null);
        }
        if (random.nextInt(5) == 0) {
            maker.with("OS/2", new byte[random.nextInt(9)]);
        }
        return maker;
    }

    private byte[] randomGroups(int glyphs) {
        long[][] groups = new long[random.nextInt(5)][];
        long next = 0;
        for (int k = 0; k < groups.length; k++) {
            long first = next + random.nextInt(30);
            long last = first + random.nextInt(20);
            groups[k] = new long[] {first, last, random.nextInt(glyphs + 1) - random.nextInt(3)};
            next = last + 1;
        }
        return FontMaker.groupMap(groups);
    }

    private byte[] randomSegments(int glyphs) {
        int[][] segments = new int[1 + random.nextInt(5)][];
        int last = -1;
        for (int k = 0; k < segments.length; k++) {
            last = k == segments.length - 1 ? 65535 : last + 1 + random.nextInt(40);
            int first = Math.max(0, last - random.nextInt(30));
            int way = random.nextInt(3) == 0 ? random.nextInt(40) : 0;
            segments[k] = new int[] {first, last, way == 0 ? random.nextInt(glyphs + 2) - first : random.nextInt(3),
                way};
        }
        int[] words = new int[random.nextInt(20)];
        for (int k = 0; k < words.length; k++) {
            words[k] = random.nextInt(glyphs + 1);
        }
        return FontMaker.segmentMap(segments, words);
    }

    private byte[] randomGlyph(int g, int glyphs) {
        int kind = random.nextInt(8);
        if (kind == 0) {
            return new byte[0];
        }
        if (kind < 4 || g == 0) {
            return randomSimple();
        }
        return randomComposed(g, glyphs);
    }

    private byte[] randomSimple() {
        int contours = random.nextInt(4);
        Data data = new Data().u16(contours).zeros(8);
        int points = 0;
        for (int k = 0; k < contours; k++) {
            points += 1 + random.nextInt(random.nextInt(12) == 0 ? 60 : 5);
            data.u16(points - 1);
        }
        int passed = random.nextInt(3);
        data.u16(passed).zeros(passed);
        int[] flags = new int[points];
        int i = 0;
        while (i < points) {
            int flag = random.nextInt(64);
            int times = (flag & 8) != 0 ? 1 + random.nextInt(points - i) : 1;
            Arrays.fill(flags, i, i + times, flag);
            i += times;
            data.u8(flag);
            if ((flag & 8) != 0) {
                data.u8(times - 1);
            }
        }
        for (int axis = 0; axis < 2; axis++) {
            for (int flag : flags) {
                if ((flag & 2 << axis) != 0) {
                    data.u8(random.nextInt(256));
                } else if ((flag & 16 << axis) == 0) {
                    data.u16(random.nextInt(1001) - 500);
                }
            }
        }
        return data.done();
    }

    private byte[] randomComposed(int g, int glyphs) {
        byte[][] parts = new byte[1 + random.nextInt(random.nextInt(15) == 0 ? 16 : 3)][];
        for (int k = 0; k < parts.length; k++) {
            int flags = k < parts.length - 1 ? 32 : 0;
            boolean moved = k == 0 || random.nextInt(3) > 0;
            flags |= moved ? 2 : 0;
            flags |= random.nextInt(3) == 0 ? 512 : 0;
            flags |= random.nextBoolean() ? 2048 : 0;
            int shape = random.nextInt(5);
            int[] factors = new int[shape < 2 ? 0 : shape == 2 ? 1 : shape == 3 ? 2 : 4];
            flags |= shape < 2 ? 0 : shape == 2 ? 8 : shape == 3 ? 64 : 128;
            for (int f = 0; f < factors.length; f++) {
                factors[f] = random.nextInt(3) == 0 ? random.nextInt(65536) : random.nextInt(32768) - 16384;
            }
            int child = random.nextInt(40) == 0 ? random.nextInt(glyphs) : random.nextInt(g);
            int p = moved ? random.nextInt(601) - 300 : random.nextInt(4);
            int q = moved ? random.nextInt(601) - 300 : random.nextInt(2);
            parts[k] = random.nextBoolean() ? FontMaker.part(flags, child, p, q, factors)
                    : FontMaker.narrowPart(flags, child, p, q, factors);
        }
        return FontMaker.composed(parts);
    }
}
