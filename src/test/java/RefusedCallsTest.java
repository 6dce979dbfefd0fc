/** Terms, their last two sentences: what calls that throw leave behind, and which exception they throw. */
final class RefusedCallsTest {
    private static final int[] ODD = {-1, 1114112, 300, Integer.MIN_VALUE, Integer.MAX_VALUE};

    public static void main(String[] args) {
        changeNothing();
        firstOneWins();
        noFontFirstOfAll();
        Checks.end();
    }

    private static FontMaker plain() {
        return new FontMaker().add(FontMaker.triangle(), FontMaker.heap(5),
                FontMaker.composed(FontMaker.part(2 + 32, 0, 1, 1), FontMaker.part(2 + 512, 1, 2, 2)));
    }

    private static void thrown(String call, FontOutlines x, Checks.Call got, String want) {
        String before = State.of(x);
        Checks.dueThrow(call, got, want);
        Checks.same("all after " + call, State.of(x), before);
        Checks.dueThrow(call + " again", got, want);
    }

    private static void changeNothing() {
        Checks.sentence("A call that throws changes nothing");
        FontOutlines x = plain().font();
        for (int odd : ODD) {
            thrown("put(odd, 0)", x, () -> x.put(odd == 300 ? 5000 : odd, 0), Checks.INDEX);
            thrown("put(0, odd)", x, () -> x.put(0, odd), Checks.ARGUMENT);
            thrown("measure(odd, 0)", x, () -> x.measure(odd, 0), Checks.INDEX);
            thrown("measure(0, odd)", x, () -> x.measure(0, odd), Checks.INDEX);
            thrown("point(odd, 0, 0)", x, () -> x.point(odd, 0, 0), Checks.INDEX);
            thrown("point(0, odd, 0)", x, () -> x.point(0, odd, 0), Checks.INDEX);
            thrown("point(0, 0, odd)", x, () -> x.point(0, 0, odd), Checks.INDEX);
            thrown("font(odd)", x, () -> x.font(odd), Checks.INDEX);
        }
        thrown("cut(-1)", x, () -> x.cut(-1), Checks.ARGUMENT);
        thrown("cut(least)", x, () -> x.cut(Integer.MIN_VALUE), Checks.ARGUMENT);
        thrown("glyph(-1)", x, () -> x.glyph(-1), Checks.ARGUMENT);
        thrown("glyph(1114112)", x, () -> x.glyph(1114112), Checks.ARGUMENT);
        Checks.due("point(0, 1, 0)", () -> x.point(0, 1, 0), 100);
        Checks.dueThrow("point(1, 9, 0)", () -> x.point(1, 9, 0), Checks.INDEX);
        Checks.due("point(0, 1, 0) after another glyph's", () -> x.point(0, 1, 0), 100);
        Checks.due("load after all", () -> x.load(true), 3);
        withoutFont();
    }

    private static void withoutFont() {
        FontOutlines y = plain().fed();
        thrown("font(0)", y, () -> y.font(0), Checks.STATE);
        thrown("glyph(0)", y, () -> y.glyph(0), Checks.STATE);
        thrown("measure(0, 0)", y, () -> y.measure(0, 0), Checks.STATE);
        thrown("point(0, 0, 0)", y, () -> y.point(0, 0, 0), Checks.STATE);
        Checks.due("load after all", () -> y.load(true), 3);
        Checks.due("font(0)", () -> y.font(0), 1000);
    }

    private static void firstOneWins() {
        Checks.sentence("where it lists more than one exception, the first one wins.");
        FontOutlines x = new FontOutlines();
        x.feed(7, 0, 0, 0, 0);
        int[] places = {-1, 20, Integer.MIN_VALUE, Integer.MAX_VALUE};
        int[] bytes = {-1, 256, Integer.MIN_VALUE, Integer.MAX_VALUE};
        for (int i : places) {
            for (int b : bytes) {
                Checks.dueThrow("put(" + i + ", " + b + ")", () -> x.put(i, b), Checks.INDEX);
                Checks.dueThrow("put(19, " + b + ")", () -> x.put(19, b), Checks.ARGUMENT);
            }
            Checks.dueThrow("put(" + i + ", 255)", () -> x.put(i, 255), Checks.INDEX);
        }
        for (int odd : ODD) {
            Checks.dueThrow("glyph(" + odd + ") without a font", () -> x.glyph(odd), Checks.STATE);
        }
    }

    private static void asksInVain(String told, FontOutlines x) {
        for (int odd : ODD) {
            Checks.dueThrow(told + "glyph(" + odd + ")", () -> x.glyph(odd), Checks.STATE);
            Checks.dueThrow(told + "font(" + odd + ")", () -> x.font(odd), Checks.STATE);
            Checks.dueThrow(told + "measure(" + odd + ", 0)", () -> x.measure(odd, 0), Checks.STATE);
            Checks.dueThrow(told + "measure(0, " + odd + ")", () -> x.measure(0, odd), Checks.STATE);
            Checks.dueThrow(told + "point(" + odd + ", 0, 0)", () -> x.point(odd, 0, 0), Checks.STATE);
            Checks.dueThrow(told + "point(0, " + odd + ", 0)", () -> x.point(0, odd, 0), Checks.STATE);
            Checks.dueThrow(told + "point(0, 0, " + odd + ")", () -> x.point(0, 0, odd), Checks.STATE);
        }
        Checks.dueThrow(told + "glyph(65)", () -> x.glyph(65), Checks.STATE);
        Checks.dueThrow(told + "font(0)", () -> x.font(0), Checks.STATE);
        Checks.dueThrow(told + "font(1)", () -> x.font(1), Checks.STATE);
        Checks.dueThrow(told + "measure(0, 0)", () -> x.measure(0, 0), Checks.STATE);
        Checks.dueThrow(told + "point(0, 0, 0)", () -> x.point(0, 0, 0), Checks.STATE);
    }

    private static void noFontFirstOfAll() {
        Checks.sentence("What asks for the font throws IllegalState first of all if there is none.");
        FontOutlines x = new FontOutlines();
        asksInVain("new: ", x);
        x.load(true);
        asksInVain("after FILE: ", x);
        FontMaker.feed(x, new FontMaker().add(new byte[] {0, 1}).file());
        asksInVain("a file, not loaded: ", x);
        Checks.due("load", () -> x.load(true), FontOutlines.GLYPHS);
        asksInVain("after GLYPHS: ", x);
        x.cut(0);
        FontMaker.feed(x, plain().file());
        asksInVain("a font, not loaded: ", x);
        Checks.due("load", () -> x.load(true), 3);
        Checks.due("font(0)", () -> x.font(0), 1000);
        Checks.dueThrow("font(2)", () -> x.font(2), Checks.INDEX);
        Checks.dueThrow("glyph(-1)", () -> x.glyph(-1), Checks.ARGUMENT);
        Checks.dueThrow("measure(3, 0)", () -> x.measure(3, 0), Checks.INDEX);
        x.cut(0);
        Checks.due("font(0) without a file", () -> x.font(0), 1000);
    }
}
