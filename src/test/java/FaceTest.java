import java.io.IOException;
import java.lang.reflect.Constructor;
import java.lang.reflect.Field;
import java.lang.reflect.Member;
import java.lang.reflect.Method;
import java.lang.reflect.Modifier;
import java.nio.file.Files;
import java.nio.file.Path;
import java.util.Arrays;
import java.util.TreeSet;

/** The document's public face, and the rules of LANGUAGE.md that can be seen from outside or by a plain search. */
public final class FaceTest {
    private static final String[] FACE = {
        "public double value(int, double) throws NoSuchElementException, IllegalArgumentException",
        "public int error()",
        "public int extend(int, boolean, boolean) throws NoSuchElementException",
        "public int function(int, double, double, double, double)",
        "public int patch(int, int, double, double) throws NoSuchElementException, ArrayIndexOutOfBoundsException",
        "public int pieces(int) throws NoSuchElementException",
        "public int point(int, int, int, int) throws NoSuchElementException, ArrayIndexOutOfBoundsException, "
            + "IllegalArgumentException",
        "public int sample(int, int, int) throws NoSuchElementException, ArrayIndexOutOfBoundsException",
        "public int shading(int, double, double, double, double, double, double)",
        "public int text(int, double)",
        "public int vertex(int, double, double, int) throws NoSuchElementException",
    };

    public static void main(String[] args) throws IOException {
        Check check = new Check("the face");
        Class<?> c = ShadeRows.class;
        check.same("the class", Modifier.toString(c.getModifiers()), "public final");
        check.same("the class above", c.getSuperclass().getName(), "java.lang.Object");
        check.same("constructors", seen(c.getDeclaredConstructors()), "[public ShadeRows()]");
        check.same("methods", seen(c.getDeclaredMethods()), Arrays.toString(FACE));
        check.same("fields", seen(c.getDeclaredFields()), "[]");
        statics(check, c);
        for (Class<?> inside : c.getDeclaredClasses()) {
            int m = inside.getModifiers();
            check.same(inside.getName() + " is static", Modifier.isStatic(m) ? 1 : 0, 1);
            check.same(inside.getName() + " is hidden", Modifier.isPublic(m) || Modifier.isProtected(m) ? 1 : 0, 0);
            statics(check, inside);
        }
        check.same("classes inside, some twelve at most", c.getDeclaredClasses().length <= 12 ? 1 : 0, 1);
        source(check);
        check.end();
    }

    /** What is not private, as the document writes it. */
    private static String seen(Member[] members) {
        TreeSet<String> seen = new TreeSet<>();
        for (Member m : members) {
            if (!Modifier.isPrivate(m.getModifiers()) && !m.isSynthetic()) {
                String text = m instanceof Field ? m.toString() : m instanceof Method
                        ? ((Method) m).toGenericString() : ((Constructor<?>) m).toGenericString();
                seen.add(text.replace("ShadeRows.", "").replace("java.util.", "").replace("java.lang.", "")
                        .replace(",", ", ").replace(",  ", ", "));
            }
        }
        return seen.toString();
    }

    private static void statics(Check check, Class<?> c) {
        for (Field f : c.getDeclaredFields()) {
            if (Modifier.isStatic(f.getModifiers())) {
                check.same(f + " is final", Modifier.isFinal(f.getModifiers()) ? 1 : 0, 1);
                check.same(f + " is of a kind that is allowed", f.getType() == int.class
                        || f.getType() == int[].class ? 1 : 0, 1);
            }
        }
    }

    private static void source(Check check) throws IOException {
        String source = Files.readString(Path.of("src/main/java/ShadeRows.java"));
        String[] words = {"catch", "try {", "finally", "->", "::", "synchronized", "assert", "package "};
        for (String word : words) {
            check.same("the source holds '" + word + "'", source.contains(word) ? 1 : 0, 0);
        }
        long imports = source.lines().filter(line -> line.startsWith("import ")).count();
        check.same("imports", imports, 1);
        check.same("the one import", source.contains("import java.util.NoSuchElementException;") ? 1 : 0, 1);
    }
}
