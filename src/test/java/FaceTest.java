import java.io.IOException;
import java.lang.reflect.Constructor;
import java.lang.reflect.Field;
import java.lang.reflect.Method;
import java.lang.reflect.Modifier;
import java.nio.file.Files;
import java.nio.file.Path;
import java.util.Arrays;
import java.util.Set;
import java.util.TreeSet;

/** The public face, and the rules of LANGUAGE.md that can be seen in the class and its text. */
public final class FaceTest {
    private static final String[] FACE = {
        "public int row(int, boolean, int)", "public int share(int, int)", "public int clear(int)",
        "public int put(int, boolean, int, long)", "public int get(int, boolean, int)",
        "public int rest(int, boolean, int, int)", "public int turn(int, boolean, int, int)",
        "public int tide(int, boolean, int, int)", "public int sum(int, boolean, int, int)",
        "public long round(long, int)", "public int gauge(int, int, long)", "public int read(int, long, boolean)",
        "public int rack(int, int)", "public int hang(int, int, int)", "public int take(int, int, int, int)",
        "public long told()", "public int count(int)"};
    private static final String[] NOT_AT_HAND = {"\\bcatch\\b", "\\btry\\b", "\\bthrow\\b", "\\bfinally\\b",
        "\\bDouble\\.", "\\bFloat\\.", "\\bStrictMath\\b", "\\bSystem\\b", "\\bassert\\b", "\\bsynchronized\\b",
        "->", "::", "Exact\\(", "\\bpackage\\b", "\\bprotected\\b", "\\bObject\\b"};

    private FaceTest() {
    }

    public static void main(String[] args) throws IOException {
        face();
        classesInside();
        text(Files.readString(Path.of("src/main/java/TideGauges.java")));
        Due.end();
    }

    private static void holds(String what, boolean does) {
        Due.is(what, 1, does ? 1 : 0);
    }

    private static void face() {
        Class<?> type = TideGauges.class;
        holds("the class is public and final", Modifier.isPublic(type.getModifiers())
            && Modifier.isFinal(type.getModifiers()));
        Set<String> open = new TreeSet<>();
        Set<String> publicNames = new TreeSet<>();
        for (Method method : type.getDeclaredMethods()) {
            if (!Modifier.isPrivate(method.getModifiers())) {
                open.add(method.toString().replace("TideGauges.", "").replace(",", ", "));
                publicNames.add(method.getName());
            }
        }
        holds("the methods are the document's: " + open, open.equals(new TreeSet<>(Arrays.asList(FACE))));
        for (Method method : type.getDeclaredMethods()) {
            holds("a name of its own for " + method,
                !Modifier.isPrivate(method.getModifiers()) || !publicNames.contains(method.getName()));
        }
        for (Field field : type.getDeclaredFields()) {
            boolean known = field.toString().equals("public static final int TideGauges.BAD");
            holds("no open field but BAD: " + field, known || Modifier.isPrivate(field.getModifiers()));
        }
        for (Constructor<?> made : type.getDeclaredConstructors()) {
            holds("one constructor: " + made, made.toString().equals("public TideGauges()"));
        }
    }

    private static void classesInside() {
        for (Class<?> inside : TideGauges.class.getDeclaredClasses()) {
            holds(inside + " is static", Modifier.isStatic(inside.getModifiers()));
            holds(inside + " is not public", !Modifier.isPublic(inside.getModifiers()));
            staticFields(inside);
        }
        staticFields(TideGauges.class);
    }

    private static void staticFields(Class<?> type) {
        for (Field field : type.getDeclaredFields()) {
            if (Modifier.isStatic(field.getModifiers())) {
                holds(field + " is a constant of a kind that is fine", Modifier.isFinal(field.getModifiers())
                    && (field.getType() == int.class || field.getType() == long.class));
            }
        }
    }

    private static void text(String text) {
        for (String word : NOT_AT_HAND) {
            holds("the text is without " + word, !java.util.regex.Pattern.compile(word).matcher(text).find());
        }
        for (String line : text.split("\n")) {
            holds("only what is listed is imported: " + line,
                !line.startsWith("import") || line.equals("import java.util.Arrays;"));
            holds("characters of plain text: " + line, line.chars().allMatch(c -> c >= 32 && c < 127));
        }
    }
}
