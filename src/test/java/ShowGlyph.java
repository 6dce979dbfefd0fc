import java.io.IOException;
import java.nio.ByteBuffer;
import java.nio.file.Files;
import java.nio.file.Path;
import java.util.Arrays;

/** Prints the outline of a character: java ShowGlyph font.ttf A */
final class ShowGlyph {
    public static void main(String[] args) throws IOException {
        byte[] bytes = Files.readAllBytes(Path.of(args[0]));
        FontOutlines fonts = new FontOutlines();
        for (int i = 0; i < bytes.length; i += 20) {
            ByteBuffer next = ByteBuffer.wrap(Arrays.copyOfRange(bytes, i, i + 20));
            fonts.feed(next.getInt(), next.getInt(), next.getInt(), next.getInt(), next.getInt());
        }
        fonts.cut(bytes.length);
        int glyphs = fonts.load(true);
        if (glyphs < 0) {
            System.out.println("no font: " + glyphs);
            return;
        }
        int glyph = fonts.glyph(args[1].codePointAt(0));
        System.out.println("glyph " + glyph + " of " + glyphs + ", width " + fonts.measure(glyph, 0));
        int points = fonts.measure(glyph, 2);
        for (int i = 0; i < points; i++) {
            System.out.println(fonts.point(glyph, i, 0) + ", " + fonts.point(glyph, i, 1)
                    + (fonts.point(glyph, i, 2) == 1 ? " on" : " off"));
        }
    }
}
