import java.lang.reflect.Constructor;
import java.lang.reflect.Field;
import java.lang.reflect.Method;
import java.lang.reflect.Modifier;
import java.util.Arrays;
import java.util.TreeSet;

/** The public face: just what the document lists. */
final class FaceTest {
    private static final String[] FACE = {
        "NONE = -1", "FILE = -1", "SUMS = -2", "TABLES = -3", "FORMS = -4", "GLYPHS = -5",
        "FontOutlines[]", "int feed[int, int, int, int, int]", "int put[int, int]", "int at[int]", "int cut[int]",
        "int load[boolean]", "int glyph[int]", "int measure[int, int]", "int point[int, int, int]", "int font[int]"};

    public static void main(String[] args) throws IllegalAccessException {
        TreeSet<String> found = new TreeSet<>();
        for (Field field : FontOutlines.class.getDeclaredFields()) {
            if (!Modifier.isPrivate(field.getModifiers())) {
                found.add(field.getName() + " = " + field.getInt(null));
            }
        }
        for (Constructor<?> constructor : FontOutlines.class.getDeclaredConstructors()) {
            found.add(constructor.getName() + Arrays.toString(constructor.getParameterTypes()));
        }
        TreeSet<String> names = new TreeSet<>();
        for (Method method : FontOutlines.class.getDeclaredMethods()) {
            if (!Modifier.isPrivate(method.getModifiers())) {
                found.add(method.getReturnType() + " " + method.getName()
                        + Arrays.toString(method.getParameterTypes()));
                names.add(method.getName());
            }
        }
        Checks.same("the face", found.toString(), new TreeSet<>(Arrays.asList(FACE)).toString());
        int modifiers = FontOutlines.class.getModifiers();
        Checks.same("public and final", Modifier.toString(modifiers), "public final");
        for (Class<?> inside : FontOutlines.class.getDeclaredClasses()) {
            Checks.same(inside + " is private", Modifier.isPrivate(inside.getModifiers()) + "", "true");
            for (Method method : inside.getDeclaredMethods()) {
                Checks.same(method + " has a name of its own", names.contains(method.getName()) + "", "false");
            }
        }
        Checks.end();
    }
}
