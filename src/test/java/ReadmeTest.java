import java.io.ByteArrayOutputStream;
import java.io.IOException;
import java.io.PrintStream;
import java.lang.reflect.Field;
import java.lang.reflect.Method;
import java.nio.file.Files;
import java.nio.file.Path;

/** README.md shows the example as it is, what it prints, every call and constant, and every test. */
public final class ReadmeTest {
    private static final Path TESTS = Path.of("src", "test", "java");

    public static void main(String[] args) throws IOException {
        String readme = Files.readString(Path.of("README.md"));
        String example = Files.readString(TESTS.resolve("ShowGlyph.java"));
        told(readme, "```java\n" + example + "```");
        byte[] font = new FontMaker().withMap(FontMaker.groupMap(new long[] {65, 65, 1}))
                .add(new byte[0], FontMaker.triangle()).file();
        String outline = printed(font);
        Checks.same("ShowGlyph of A", outline, "glyph 1 of 2, width 101\n0, 0 on\n100, 0 on\n50, 80 off\n");
        told(readme, "```text\n" + outline + "```");
        font[font.length - 3]++;
        Checks.same("ShowGlyph of a font with a wrong sum", printed(font), "no font: -2\n");
        for (Method method : FontOutlines.class.getMethods()) {
            if (method.getDeclaringClass() == FontOutlines.class) {
                told(readme, "| `" + method.getName() + "(");
            }
        }
        for (Field field : FontOutlines.class.getFields()) {
            told(readme, "`" + field.getName() + "` (" + valueOf(field) + ")");
        }
        try (var files = Files.newDirectoryStream(TESTS, "*Test.java")) {
            for (Path file : files) {
                told(readme, "`" + file.getFileName().toString().replace(".java", "`"));
            }
        }
        Checks.end();
    }

    private static int valueOf(Field field) {
        try {
            return field.getInt(null);
        } catch (IllegalAccessException e) {
            throw new IllegalStateException(e);
        }
    }

    private static void told(String readme, String words) {
        Checks.same("README.md tells " + words, Boolean.toString(readme.contains(words)), "true");
    }

    private static String printed(byte[] font) throws IOException {
        Path file = Files.createTempFile("font", ".ttf");
        PrintStream before = System.out;
        ByteArrayOutputStream caught = new ByteArrayOutputStream();
        try {
            Files.write(file, font);
            System.setOut(new PrintStream(caught, true));
            ShowGlyph.main(new String[] {file.toString(), "A"});
        } finally {
            System.setOut(before);
            Files.delete(file);
        }
        return caught.toString().replace("\r\n", "\n");
    }
}
