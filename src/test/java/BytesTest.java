/** Promises 1 to 5: a new object, feed, put, at, cut. */
final class BytesTest {
    private static final int MOST = 16384;

    public static void main(String[] args) {
        newObject();
        feeding();
        highestFirst();
        tooMuch();
        fullFile();
        putting();
        noSuchByte();
        notAByte();
        reading();
        cutting();
        cuttingBelowNothing();
        ownState();
        Checks.end();
    }

    private static void newObject() {
        Checks.sentence("An empty file, no font.");
        FontOutlines x = new FontOutlines();
        Checks.due("at(0)", () -> x.at(0), FontOutlines.NONE);
        Checks.due("cut(0)", () -> x.cut(0), 0);
        Checks.dueThrow("put(0, 0)", () -> x.put(0, 0), Checks.INDEX);
        Checks.dueThrow("font(0)", () -> x.font(0), Checks.STATE);
        Checks.dueThrow("glyph(65)", () -> x.glyph(65), Checks.STATE);
        Checks.dueThrow("measure(0, 0)", () -> x.measure(0, 0), Checks.STATE);
        Checks.dueThrow("point(0, 0, 0)", () -> x.point(0, 0, 0), Checks.STATE);
        Checks.due("load(true)", () -> x.load(true), FontOutlines.FILE);
        Checks.due("load(false)", () -> x.load(false), FontOutlines.FILE);
        Checks.dueThrow("font(0) after load", () -> x.font(0), Checks.STATE);
        Checks.due("feed", () -> x.feed(1, 2, 3, 4, 5), 20);
    }

    private static void feeding() {
        Checks.sentence("Twenty bytes more in the file, the highest of a first: how many it has");
        FontOutlines x = new FontOutlines();
        for (int many = 20; many <= 10000; many += 20) {
            int due = many;
            Checks.due("feed", () -> x.feed(due, 0, 0, 0, 0), due);
        }
        Checks.due("at(9999)", () -> x.at(9999), 0);
        Checks.due("at(10000)", () -> x.at(10000), FontOutlines.NONE);
        FontOutlines y = new FontOutlines();
        y.feed(1, 2, 3, 4, 5);
        y.feed(6, 7, 8, 9, 10);
        Checks.due("cut(22)", () -> y.cut(22), 18);
        Checks.due("feed behind 22", () -> y.feed(0x11223344, 0, 0, 0, 0), 42);
        Checks.due("at(22)", () -> y.at(22), 0x11);
        Checks.due("at(25)", () -> y.at(25), 0x44);
        Checks.due("at(41)", () -> y.at(41), 0);
        Checks.due("at(42)", () -> y.at(42), FontOutlines.NONE);
    }

    private static void highestFirst() {
        Checks.sentence("the highest of a first");
        FontOutlines x = new FontOutlines();
        Checks.due("feed", () -> x.feed(0x01020304, -1, 0x7f800001, Integer.MIN_VALUE, 0xa0b0c0d0), 20);
        int[] due = {1, 2, 3, 4, 255, 255, 255, 255, 127, 128, 0, 1, 128, 0, 0, 0, 160, 176, 192, 208};
        for (int i = 0; i < due.length; i++) {
            int place = i;
            Checks.due("at(" + i + ")", () -> x.at(place), due[i]);
        }
    }

    private static FontOutlines fed(int bytes) {
        FontOutlines x = new FontOutlines();
        for (int many = 0; many < bytes && many + 20 <= MOST; many += 20) {
            x.feed(-1, -1, -1, -1, -1);
        }
        x.cut(bytes);
        return x;
    }

    /** The document promises nothing after 512 calls, but the limit can't be reached with fewer. */
    private static void tooMuch() {
        Checks.sentence("NONE (and nothing happens) if there would be more than 16,384.");
        for (int bytes = MOST - 20 - 3; bytes <= 16380; bytes++) {
            FontOutlines x = fed(bytes);
            boolean fits = bytes + 20 <= MOST;
            int due = fits ? bytes + 20 : FontOutlines.NONE;
            Checks.due("feed behind " + bytes, () -> x.feed(7, 7, 7, 7, 9), due);
            int last = bytes - 1;
            Checks.due("the last byte before", () -> x.at(last), 255);
            Checks.due("the first byte behind", () -> x.at(last + 1), fits ? 0 : FontOutlines.NONE);
            Checks.due("how many there are", () -> x.cut(0), fits ? last + 21 : last + 1);
        }
    }

    private static void fullFile() {
        Checks.sentence("THE FILE has at most 16,384 bytes.");
        FontOutlines x = fed(MOST - 20);
        Checks.due("feed up to 16384", () -> x.feed(7, 7, 7, 7, 9), MOST);
        Checks.due("at(16383)", () -> x.at(16383), 9);
        Checks.due("at(16384)", () -> x.at(16384), FontOutlines.NONE);
        Checks.due("put(16383, 8)", () -> x.put(16383, 8), 9);
        Checks.dueThrow("put(16384, 8)", () -> x.put(16384, 8), Checks.INDEX);
        Checks.due("feed into a full file", () -> x.feed(1, 1, 1, 1, 1), FontOutlines.NONE);
        Checks.due("load a full file", () -> x.load(false), FontOutlines.FILE);
        Checks.due("at(16383)", () -> x.at(16383), 8);
        Checks.due("cut(16383)", () -> x.cut(16383), 1);
        Checks.due("feed behind 16383", () -> x.feed(1, 1, 1, 1, 1), FontOutlines.NONE);
        Checks.due("cut(0)", () -> x.cut(0), 16383);
        fullFont();
    }

    /** A font whose last table ends with the 16,384th byte. */
    private static void fullFont() {
        FontMaker maker = new FontMaker().add(FontMaker.triangle());
        maker.with("zzzz", new byte[0]);
        byte[] rest = new byte[MOST - maker.file().length];
        java.util.Arrays.fill(rest, (byte) 0x81);
        byte[] file = maker.with("zzzz", rest).file();
        FontOutlines x = fed(MOST - 20);
        for (int i = 0; i < MOST - 20; i++) {
            x.put(i, file[i] & 255);
        }
        x.feed(0x81818181, 0x81818181, 0x81818181, 0x81818181, 0x81818181);
        Checks.due("load a full font", () -> x.load(true), 1);
        x.put(MOST - 1, 0x80);
        Checks.due("its last byte counts", () -> x.load(true), FontOutlines.SUMS);
        x.cut(MOST - 1);
        Checks.due("its last byte is gone", () -> x.load(false), FontOutlines.FILE);
    }

    private static void putting() {
        Checks.sentence("A byte of the file becomes b: what it was.");
        FontOutlines x = new FontOutlines();
        x.feed(0x01020304, 0, 0, 0, 0xff);
        Checks.due("put(1, 255)", () -> x.put(1, 255), 2);
        Checks.due("put(1, 0)", () -> x.put(1, 0), 255);
        Checks.due("put(1, 128)", () -> x.put(1, 128), 0);
        Checks.due("put(1, 127)", () -> x.put(1, 127), 128);
        Checks.due("put(19, 128)", () -> x.put(19, 128), 255);
        int[] due = {1, 127, 3, 4, 0};
        for (int i = 0; i < due.length; i++) {
            int place = i;
            Checks.due("at(" + i + ")", () -> x.at(place), due[i]);
        }
        Checks.due("at(18)", () -> x.at(18), 0);
        Checks.due("at(19)", () -> x.at(19), 128);
        Checks.due("at(20)", () -> x.at(20), FontOutlines.NONE);
    }

    private static void noSuchByte() {
        Checks.sentence("IndexOutOfBounds: there is none such.");
        FontOutlines x = new FontOutlines();
        Checks.dueThrow("put(0, 0) of none", () -> x.put(0, 0), Checks.INDEX);
        x.feed(0, 0, 0, 0, 0);
        Checks.due("put(0, 1)", () -> x.put(0, 1), 0);
        Checks.due("put(19, 1)", () -> x.put(19, 1), 0);
        int[] wrong = {-1, 20, 21, 255, 256, MOST, Integer.MIN_VALUE, Integer.MAX_VALUE};
        for (int i : wrong) {
            Checks.dueThrow("put(" + i + ", 0)", () -> x.put(i, 0), Checks.INDEX);
        }
        x.cut(4);
        Checks.due("put(3, 5) before the cut", () -> x.put(3, 5), 0);
        Checks.dueThrow("put(4, 5) behind the cut", () -> x.put(4, 5), Checks.INDEX);
    }

    private static void notAByte() {
        Checks.sentence("IllegalArgument: b is not 0 .. 255.");
        FontOutlines x = new FontOutlines();
        x.feed(0x07000000, 0, 0, 0, 0);
        int[] wrong = {-1, 256, -128, -256, 257, 65536, Integer.MIN_VALUE, Integer.MAX_VALUE};
        for (int b : wrong) {
            Checks.dueThrow("put(0, " + b + ")", () -> x.put(0, b), Checks.ARGUMENT);
            Checks.due("at(0)", () -> x.at(0), 7);
        }
        Checks.due("put(0, 255)", () -> x.put(0, 255), 7);
        Checks.due("put(0, 0)", () -> x.put(0, 0), 255);
        Checks.due("at(0)", () -> x.at(0), 0);
    }

    private static void reading() {
        Checks.sentence("A byte of the file; NONE if there is none such.");
        FontOutlines x = new FontOutlines();
        Checks.due("at(0) of none", () -> x.at(0), FontOutlines.NONE);
        x.feed(0xff000000, 0, 0, 0, 0x80);
        Checks.due("at(0)", () -> x.at(0), 255);
        Checks.due("at(1)", () -> x.at(1), 0);
        Checks.due("at(19)", () -> x.at(19), 128);
        int[] wrong = {-1, 20, 21, 255, 256, 300, MOST, Integer.MAX_VALUE, Integer.MIN_VALUE};
        for (int i : wrong) {
            Checks.due("at(" + i + ")", () -> x.at(i), FontOutlines.NONE);
        }
    }

    private static void cutting() {
        Checks.sentence("Only the first bytes are left: how many are gone.");
        FontOutlines x = new FontOutlines();
        x.feed(1, 2, 3, 4, 5);
        Checks.due("cut(21)", () -> x.cut(21), 0);
        Checks.due("cut(greatest)", () -> x.cut(Integer.MAX_VALUE), 0);
        Checks.due("cut(20)", () -> x.cut(20), 0);
        Checks.due("at(19)", () -> x.at(19), 5);
        Checks.due("at(20)", () -> x.at(20), FontOutlines.NONE);
        Checks.due("cut(19)", () -> x.cut(19), 1);
        Checks.due("at(18)", () -> x.at(18), 0);
        Checks.due("at(19)", () -> x.at(19), FontOutlines.NONE);
        Checks.due("cut(4)", () -> x.cut(4), 15);
        Checks.due("at(3)", () -> x.at(3), 1);
        Checks.due("at(4)", () -> x.at(4), FontOutlines.NONE);
        Checks.due("cut(0)", () -> x.cut(0), 4);
        Checks.due("at(0)", () -> x.at(0), FontOutlines.NONE);
        Checks.due("cut(0) again", () -> x.cut(0), 0);
        Checks.due("feed after all", () -> x.feed(0, 0, 0, 0, 6), 20);
        Checks.due("at(3)", () -> x.at(3), 0);
    }

    private static void cuttingBelowNothing() {
        Checks.sentence("IllegalArgument: many is below 0.");
        FontOutlines x = new FontOutlines();
        Checks.dueThrow("cut(-1) of none", () -> x.cut(-1), Checks.ARGUMENT);
        x.feed(1, 2, 3, 4, 5);
        int[] wrong = {-1, -20, Integer.MIN_VALUE};
        for (int many : wrong) {
            Checks.dueThrow("cut(" + many + ")", () -> x.cut(many), Checks.ARGUMENT);
            Checks.due("at(19)", () -> x.at(19), 5);
        }
        Checks.due("cut(0)", () -> x.cut(0), 20);
    }

    private static void ownState() {
        Checks.sentence("FontOutlines()");
        FontOutlines x = new FontMaker().add(FontMaker.triangle()).font();
        String before = State.of(x);
        FontOutlines y = new FontOutlines();
        Checks.due("at(0) of another", () -> y.at(0), FontOutlines.NONE);
        Checks.dueThrow("font(0) of another", () -> y.font(0), Checks.STATE);
        y.feed(1, 2, 3, 4, 5);
        y.load(false);
        Checks.same("the first one after all", State.of(x), before);
        FontMaker.feed(y, new byte[0]);
        y.cut(0);
        FontMaker.feed(y, new FontMaker().add(FontMaker.heap(9), new byte[0]).file());
        Checks.due("load of another", () -> y.load(true), 2);
        Checks.same("the first one after all", State.of(x), before);
    }
}
