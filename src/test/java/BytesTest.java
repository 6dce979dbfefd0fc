/** Promises 1 to 5: a new object, feed, put, at, cut. */
final class BytesTest {
    public static void main(String[] args) {
        newObject();
        feeding();
        fullFile();
        putting();
        reading();
        cutting();
        Checks.end();
    }

    private static void newObject() {
        FontOutlines x = new FontOutlines();
        Checks.due("new: at(0)", () -> x.at(0), FontOutlines.NONE);
        Checks.due("new: cut(0)", () -> x.cut(0), 0);
        Checks.dueThrow("new: put(0, 0)", () -> x.put(0, 0), Checks.INDEX);
        Checks.dueThrow("new: font(0)", () -> x.font(0), Checks.STATE);
        Checks.dueThrow("new: font(9)", () -> x.font(9), Checks.STATE);
        Checks.dueThrow("new: glyph(65)", () -> x.glyph(65), Checks.STATE);
        Checks.dueThrow("new: glyph(-1)", () -> x.glyph(-1), Checks.STATE);
        Checks.dueThrow("new: measure(0, 0)", () -> x.measure(0, 0), Checks.STATE);
        Checks.dueThrow("new: measure(-1, 99)", () -> x.measure(-1, 99), Checks.STATE);
        Checks.dueThrow("new: point(0, 0, 0)", () -> x.point(0, 0, 0), Checks.STATE);
        Checks.dueThrow("new: point(-1, -1, -1)", () -> x.point(-1, -1, -1), Checks.STATE);
        Checks.due("new: load(true)", () -> x.load(true), FontOutlines.FILE);
        Checks.due("new: load(false)", () -> x.load(false), FontOutlines.FILE);
        Checks.dueThrow("new, loaded in vain: font(0)", () -> x.font(0), Checks.STATE);
    }

    private static void feeding() {
        FontOutlines x = new FontOutlines();
        Checks.due("feed", () -> x.feed(0x01020304, -1, 0x7f800001, Integer.MIN_VALUE, 0xa0b0c0d0), 20);
        int[] due = {1, 2, 3, 4, 255, 255, 255, 255, 127, 128, 0, 1, 128, 0, 0, 0, 160, 176, 192, 208};
        for (int i = 0; i < due.length; i++) {
            int place = i;
            Checks.due("at(" + i + ")", () -> x.at(place), due[i]);
        }
        Checks.due("feed again", () -> x.feed(5, 0, 0, 0, 6), 40);
        Checks.due("at(23)", () -> x.at(23), 5);
        Checks.due("at(39)", () -> x.at(39), 6);
        Checks.due("at(40)", () -> x.at(40), FontOutlines.NONE);
        Checks.due("cut(22)", () -> x.cut(22), 18);
        Checks.due("feed behind 22", () -> x.feed(0x11000000, 0, 0, 0, 0), 42);
        Checks.due("at(22)", () -> x.at(22), 0x11);
    }

    /** The document promises nothing after 512 calls, but the limit can't be reached with fewer. */
    private static void fullFile() {
        FontOutlines x = new FontOutlines();
        for (int k = 1; k <= 819; k++) {
            int many = 20 * k;
            Checks.due("feed " + k, () -> x.feed(many, 0, 0, 0, many), many);
        }
        Checks.due("feed beyond 16384", () -> x.feed(1, 1, 1, 1, 1), FontOutlines.NONE);
        Checks.due("at(16379)", () -> x.at(16379), 16380 & 255);
        Checks.due("at(16380)", () -> x.at(16380), FontOutlines.NONE);
        Checks.due("at(1019)", () -> x.at(1019), 1020 & 255);
        Checks.due("cut(16364)", () -> x.cut(16364), 16);
        Checks.due("feed up to 16384", () -> x.feed(7, 7, 7, 7, 9), 16384);
        Checks.due("at(16383)", () -> x.at(16383), 9);
        Checks.due("feed into a full file", () -> x.feed(1, 1, 1, 1, 1), FontOutlines.NONE);
        Checks.due("load a full file", () -> x.load(false), FontOutlines.FILE);
        Checks.due("cut(16365)", () -> x.cut(16365), 19);
        Checks.due("feed one byte too many", () -> x.feed(1, 1, 1, 1, 1), FontOutlines.NONE);
        Checks.due("at(16364)", () -> x.at(16364), 0);
        Checks.due("cut(0)", () -> x.cut(0), 16365);
    }

    private static void putting() {
        FontOutlines x = new FontOutlines();
        x.feed(0x01020304, 0, 0, 0, 0xff);
        Checks.due("put(1, 255)", () -> x.put(1, 255), 2);
        Checks.due("put(1, 0)", () -> x.put(1, 0), 255);
        Checks.due("put(19, 128)", () -> x.put(19, 128), 255);
        Checks.due("at(1)", () -> x.at(1), 0);
        Checks.due("at(19)", () -> x.at(19), 128);
        Checks.dueThrow("put(20, 0)", () -> x.put(20, 0), Checks.INDEX);
        Checks.dueThrow("put(-1, 0)", () -> x.put(-1, 0), Checks.INDEX);
        Checks.dueThrow("put(0, -1)", () -> x.put(0, -1), Checks.ARGUMENT);
        Checks.dueThrow("put(0, 256)", () -> x.put(0, 256), Checks.ARGUMENT);
        Checks.dueThrow("put(20, 256)", () -> x.put(20, 256), Checks.INDEX);
        Checks.dueThrow("put(least, least)", () -> x.put(Integer.MIN_VALUE, Integer.MIN_VALUE), Checks.INDEX);
        Checks.due("at(0) after what threw", () -> x.at(0), 1);
        x.cut(4);
        Checks.dueThrow("put(4, 0) behind the cut", () -> x.put(4, 0), Checks.INDEX);
    }

    private static void reading() {
        FontOutlines x = new FontOutlines();
        x.feed(-1, 0, 0, 0, 0);
        Checks.due("at(0)", () -> x.at(0), 255);
        Checks.due("at(-1)", () -> x.at(-1), FontOutlines.NONE);
        Checks.due("at(20)", () -> x.at(20), FontOutlines.NONE);
        Checks.due("at(300)", () -> x.at(300), FontOutlines.NONE);
        Checks.due("at(greatest)", () -> x.at(Integer.MAX_VALUE), FontOutlines.NONE);
        Checks.due("at(least)", () -> x.at(Integer.MIN_VALUE), FontOutlines.NONE);
    }

    private static void cutting() {
        FontOutlines x = new FontOutlines();
        x.feed(1, 2, 3, 4, 5);
        Checks.due("cut(20)", () -> x.cut(20), 0);
        Checks.due("cut(greatest)", () -> x.cut(Integer.MAX_VALUE), 0);
        Checks.dueThrow("cut(-1)", () -> x.cut(-1), Checks.ARGUMENT);
        Checks.dueThrow("cut(least)", () -> x.cut(Integer.MIN_VALUE), Checks.ARGUMENT);
        Checks.due("at(19) after what threw", () -> x.at(19), 5);
        Checks.due("cut(19)", () -> x.cut(19), 1);
        Checks.due("at(18)", () -> x.at(18), 0);
        Checks.due("at(19)", () -> x.at(19), FontOutlines.NONE);
        Checks.due("cut(0)", () -> x.cut(0), 19);
        Checks.due("at(0)", () -> x.at(0), FontOutlines.NONE);
    }
}
