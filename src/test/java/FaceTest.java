import java.io.IOException;
import java.lang.reflect.Constructor;
import java.lang.reflect.Field;
import java.lang.reflect.Method;
import java.lang.reflect.Modifier;
import java.nio.file.Files;
import java.nio.file.Path;
import java.util.Arrays;
import java.util.TreeSet;
import java.util.regex.Matcher;
import java.util.regex.Pattern;

/** The public face, the constants, and those rules of LANGUAGE.md that a look at the class can tell. */
public final class FaceTest {
    private static final Path SOURCE = Path.of("src/main/java/WordTables.java");
    private static final String[] METHODS = {"fold int int", "letter int", "word int int", "value int int",
        "plural int int", "join int int", "type int", "read int", "token int int", "at int int", "amount int",
        "amountLength int", "thing", "means int int int", "flag int boolean", "refer int int", "meant int",
        "phrase int", "phraseLength int", "about int int", "equal int int", "told int"};

    public static void main(String[] args) throws IOException {
        classIsFinal();
        constants();
        methods();
        nestedClasses();
        sizes(WordTables.class);
        for (Class<?> nested : WordTables.class.getDeclaredClasses()) {
            sizes(nested);
        }
        source();
        methodsAreShort();
        Check.end();
    }

    private static void same(String what, Object got, Object want) {
        if (!got.equals(want)) {
            System.out.println(what + " is " + got + ", not " + want);
        }
        Check.due(what, got.equals(want) ? 1 : 0, 1);
    }

    private static void classIsFinal() {
        int modifiers = WordTables.class.getModifiers();
        same("public and final", Modifier.isPublic(modifiers) && Modifier.isFinal(modifiers), true);
        Constructor<?>[] all = WordTables.class.getDeclaredConstructors();
        same("constructors", Arrays.toString(all), "[public WordTables(int)]");
    }

    private static void constants() {
        Check.due("NONE", WordTables.NONE, -1);
        Check.due("UNKNOWN", WordTables.UNKNOWN, -2);
        Check.due("OUTSIDE", WordTables.OUTSIDE, -3);
        Check.due("STATE", WordTables.STATE, -4);
        Check.due("ROOM", WordTables.ROOM, -5);
        TreeSet<String> open = new TreeSet<>();
        for (Field f : WordTables.class.getDeclaredFields()) {
            if (!Modifier.isPrivate(f.getModifiers())) {
                open.add(f.getName() + " " + Modifier.toString(f.getModifiers()) + " " + f.getType());
            }
        }
        TreeSet<String> due = new TreeSet<>();
        for (String name : new String[] {"NONE", "UNKNOWN", "OUTSIDE", "STATE", "ROOM"}) {
            due.add(name + " public static final int");
        }
        same("constants", open, due);
    }

    private static void methods() {
        TreeSet<String> open = new TreeSet<>();
        TreeSet<String> names = new TreeSet<>();
        for (Method m : WordTables.class.getDeclaredMethods()) {
            if (Modifier.isPrivate(m.getModifiers())) {
                names.add(m.getName());
            } else {
                StringBuilder form = new StringBuilder(m.getName());
                for (Class<?> type : m.getParameterTypes()) {
                    form.append(" ").append(type);
                }
                open.add(form.toString());
                same(m.getName() + " is public", Modifier.toString(m.getModifiers()), "public");
                same(m.getName() + " answers", m.getReturnType(), int.class);
            }
        }
        same("methods", open, new TreeSet<>(Arrays.asList(METHODS)));
        for (String form : METHODS) {
            same("a private " + form, names.contains(form.split(" ")[0]), false);
        }
    }

    private static void nestedClasses() {
        Class<?>[] nested = WordTables.class.getDeclaredClasses();
        same("at most twelve classes", nested.length <= 11, true);
        for (Class<?> c : nested) {
            same(c + " is static", Modifier.isStatic(c.getModifiers()), true);
            same(c + " is not open", Modifier.isPublic(c.getModifiers()) || Modifier.isProtected(c.getModifiers()),
                    false);
            for (Field f : c.getDeclaredFields()) {
                boolean fixed = !Modifier.isStatic(f.getModifiers()) || Modifier.isFinal(f.getModifiers());
                same(f + " is no static state", fixed, true);
            }
        }
    }

    /** Rule 11: at most seven parameters, and some twenty fields beside the constants. */
    private static void sizes(Class<?> c) {
        int fields = 0;
        for (Field f : c.getDeclaredFields()) {
            fields += Modifier.isStatic(f.getModifiers()) ? 0 : 1;
        }
        same(c + " has few fields", fields <= 20, true);
        for (Method m : c.getDeclaredMethods()) {
            same(m + " has few parameters", m.getParameterCount() <= 7, true);
        }
    }

    /** Rule 11: a method that begins at a brace's line and ends at the brace that is indented like it. */
    private static void methodsAreShort() throws IOException {
        Pattern method = Pattern.compile("(?ms)^( {4}| {8})[^ /\n][^;\n]*\\([^;\n]*\\) \\{$.*?^\\1\\}$");
        Matcher m = method.matcher(Files.readString(SOURCE));
        int found = 0;
        while (m.find()) {
            found++;
            same(m.group().lines().findFirst().orElse("") + " is short", m.group().lines().count() <= 60, true);
        }
        same("methods were looked at", found >= METHODS.length, true);
    }

    private static void source() throws IOException {
        String text = Files.readString(SOURCE);
        String code = text.replaceAll("(?s)/\\*.*?\\*/", "").replaceAll("//[^\n]*", "");
        Pattern ruledOut = Pattern.compile("\\b(throw|throws|try|catch|synchronized|assert|import|package|System"
                + "|Thread|Random|native|volatile|transient|hashCode|toString|Object)\\b|->|::|Exact\\b|@");
        Matcher m = ruledOut.matcher(code);
        while (m.find()) {
            same("a word that LANGUAGE.md rules out: " + m.group(), true, false);
        }
        same("the source was looked at", code.contains("public final class WordTables"), true);
    }
}
