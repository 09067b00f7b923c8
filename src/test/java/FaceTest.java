import java.io.IOException;
import java.lang.reflect.Constructor;
import java.lang.reflect.Field;
import java.lang.reflect.Method;
import java.lang.reflect.Modifier;
import java.nio.file.Files;
import java.nio.file.Path;
import java.util.Arrays;
import java.util.Set;
import java.util.TreeSet;
import java.util.regex.Pattern;

/** The public face, and the rules of LANGUAGE.md that can be seen in the class and its text. */
public final class FaceTest {
    private static final String[] FACE = {
        "public int row(int, boolean, int)", "public int share(int, int)", "public int clear(int)",
        "public int put(int, boolean, int, long)", "public int get(int, boolean, int)",
        "public int rest(int, boolean, int, int)", "public int turn(int, boolean, int, int)",
        "public int tide(int, boolean, int, int)", "public int sum(int, boolean, int, int)",
        "public long round(long, int)", "public int gauge(int, int, long)", "public int read(int, long, boolean)",
        "public int rack(int, int)", "public int hang(int, int, int)", "public int take(int, int, int, int)",
        "public long told()", "public int count(int)"};
    private static final String[] NOT_AT_HAND = {"\\bfinally\\b", "\\bassert\\b", "\\bsynchronized\\b",
        "\\bpackage\\b", "\\bprotected\\b", "\\bDouble\\b", "\\bFloat\\b", "\\bStrictMath\\b", "\\bThread\\b",
        "\\bSystem\\.(?!arraycopy\\b)", "::", "Exact\\(",
        "catch\\s*\\([^)]*(NullPointer|ArrayIndex|ClassCast|NegativeArray|ArrayStore|Throwable|\\bException\\b)"};
    private static final Set<String> IMPORTS = Set.of("import java.util.Arrays;", "import java.util.ArrayList;",
        "import java.util.List;", "import java.util.Iterator;", "import java.util.NoSuchElementException;");
    private static final Set<Class<?>> CONSTANTS = Set.of(int.class, long.class, boolean.class, char.class,
        String.class, int[].class, long[].class, char[].class, byte[].class);

    private FaceTest() {
    }

    public static void main(String[] args) throws IOException {
        face();
        classesInside();
        text(Files.readString(Path.of("src/main/java/TideGauges.java")));
        Due.end();
    }

    private static void holds(String what, boolean does) {
        Due.is(what, 1, does ? 1 : 0);
    }

    private static void face() {
        Class<?> type = TideGauges.class;
        holds("the class is public and final", Modifier.isPublic(type.getModifiers())
            && Modifier.isFinal(type.getModifiers()));
        Set<String> open = new TreeSet<>();
        Set<String> publicNames = new TreeSet<>();
        for (Method method : type.getDeclaredMethods()) {
            if (!Modifier.isPrivate(method.getModifiers())) {
                open.add(method.toString().replace("TideGauges.", "").replace(",", ", "));
                publicNames.add(method.getName());
            }
        }
        holds("the methods are the document's: " + open, open.equals(new TreeSet<>(Arrays.asList(FACE))));
        for (Method method : type.getDeclaredMethods()) {
            holds("a name of its own for " + method,
                !Modifier.isPrivate(method.getModifiers()) || !publicNames.contains(method.getName()));
        }
        for (Field field : type.getDeclaredFields()) {
            boolean known = field.toString().equals("public static final int TideGauges.BAD");
            holds("no open field but BAD: " + field, known || Modifier.isPrivate(field.getModifiers()));
        }
        for (Constructor<?> made : type.getDeclaredConstructors()) {
            holds("one constructor: " + made, made.toString().equals("public TideGauges()"));
        }
    }

    private static void classesInside() {
        for (Class<?> inside : TideGauges.class.getDeclaredClasses()) {
            holds(inside + " is static", Modifier.isStatic(inside.getModifiers()));
            holds(inside + " is not public", !Modifier.isPublic(inside.getModifiers()));
            staticFields(inside);
        }
        staticFields(TideGauges.class);
    }

    private static void staticFields(Class<?> type) {
        for (Field field : type.getDeclaredFields()) {
            if (Modifier.isStatic(field.getModifiers())) {
                Class<?> held = field.getType().isArray() ? field.getType().getComponentType() : field.getType();
                holds(field + " is a constant of a kind that is fine", Modifier.isFinal(field.getModifiers())
                    && (CONSTANTS.contains(field.getType()) || held.isEnum()));
            }
        }
    }

    private static void text(String text) {
        String code = text.replaceAll("(?s)/\\*.*?\\*/", " ").replaceAll("//[^\n]*", " ");
        for (String word : NOT_AT_HAND) {
            holds("the text is without " + word, !Pattern.compile(word).matcher(code).find());
        }
        for (String line : code.split("\n")) {
            holds("only what is listed is imported: " + line, !line.startsWith("import") || IMPORTS.contains(line));
            holds("no lambda: " + line, !line.contains("->") || line.matches("\\s*(case|default)\\b.*"));
        }
    }
}
