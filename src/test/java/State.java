/** All that an object tells of its file and of its font, as one text. */
final class State {
    private static final int MORE_THAN_GLYPHS = 300;
    private static final int[] CHARACTERS = {0, 64, 65, 66, 67, 100, 65535, 65536, 1114111};

    private State() {
    }

    static String of(FontOutlines x) {
        return ofFile(x) + " " + ofFont(x);
    }

    static String ofFile(FontOutlines x) {
        StringBuilder text = new StringBuilder();
        for (int i = 0; x.at(i) != FontOutlines.NONE; i++) {
            text.append(x.at(i)).append(' ');
        }
        return text.toString();
    }

    static String ofFont(FontOutlines x) {
        String em = Checks.answerOf(() -> x.font(0));
        if (em.equals(Checks.STATE)) {
            return em;
        }
        StringBuilder text = new StringBuilder(em).append(' ').append(x.font(1));
        for (int c : CHARACTERS) {
            text.append(' ').append(x.glyph(c));
        }
        int glyph = 0;
        while (glyph < MORE_THAN_GLYPHS && isGlyph(x, glyph)) {
            addGlyph(text, x, glyph);
            glyph++;
        }
        return text.toString();
    }

    private static boolean isGlyph(FontOutlines x, int glyph) {
        return !Checks.answerOf(() -> x.measure(glyph, 0)).equals(Checks.INDEX);
    }

    private static void addGlyph(StringBuilder text, FontOutlines x, int glyph) {
        text.append('\n');
        for (int what = 0; what < 8; what++) {
            text.append(x.measure(glyph, what)).append(' ');
        }
        for (int i = 0; i < x.measure(glyph, 2); i++) {
            text.append('(');
            for (int what = 0; what < 4; what++) {
                text.append(x.point(glyph, i, what)).append(' ');
            }
            text.append(')');
        }
    }
}
