import java.io.IOException;
import java.lang.reflect.Method;
import java.lang.reflect.Modifier;
import java.nio.file.Files;
import java.nio.file.Path;
import java.util.stream.Stream;

/** README.md as it is now: its example comes to what it says, and it names every call and every test. */
public final class ReadmeTest {
    private static final Path README = Path.of("README.md");
    private static final Path TESTS = Path.of("src/test/java");

    public static void main(String[] args) throws IOException {
        String text = Files.readString(README);
        example();
        exampleIsTheOneAbove(text);
        everyCall(text);
        everyTest(text);
        Check.end();
    }

    private static void example() {
        WordTables t = new WordTables(6);
        t.fold(0x82, 'e');
        for (char c : "lamp".toCharArray()) t.letter(c);
        int lamp = t.word(0, 2);
        for (char c : "lamps".toCharArray()) t.letter(c);
        int lamps = t.word(0, 2);
        t.plural(lamps, lamp);
        for (char c : "twenty".toCharArray()) t.letter(c);
        int twenty = t.word(0, 32);
        t.value(twenty, 20);
        int thing = t.thing();
        t.means(thing, lamp, WordTables.NONE);
        for (char c : "LAMPS at 9:30pm, twenty".toCharArray()) t.type(c);
        int tokens = t.read(0);
        int sort = t.token(0, 0);
        int number = t.token(0, 3);
        int bits = t.phrase(0);
        int strange = t.token(1, 0);
        int time = t.token(2, 3);
        int amount = t.amount(4);
        int none = t.amount(0);
        Check.due("tokens", tokens, 5);
        Check.due("sort", sort, 0);
        Check.due("number", number, lamps);
        Check.due("bits", bits, 1);
        Check.due("strange", strange, 1);
        Check.due("time", time, 60 * 21 + 30);
        Check.due("amount", amount, 20);
        Check.due("none", none, WordTables.STATE);
    }

    private static void names(String what, boolean named) {
        Check.due("README.md and " + what, named ? 1 : 0, 1);
    }

    private static void exampleIsTheOneAbove(String text) throws IOException {
        String own = Files.readString(TESTS.resolve("ReadmeTest.java"));
        int from = text.indexOf("```java");
        int to = text.indexOf("```", from + 1);
        names("an example", from >= 0 && to > from);
        for (String line : text.substring(text.indexOf('\n', from), to).split("\n")) {
            String code = line.replaceAll("//.*", "").strip();
            names("the line <" + code + "> of its example", own.contains(code));
        }
    }

    private static void everyCall(String text) {
        for (Method m : WordTables.class.getDeclaredMethods()) {
            if (Modifier.isPublic(m.getModifiers())) {
                names("the call " + m.getName(), text.contains("`" + m.getName() + "("));
            }
        }
    }

    private static void everyTest(String text) throws IOException {
        try (Stream<Path> files = Files.list(TESTS)) {
            for (Path file : (Iterable<Path>) files::iterator) {
                String name = file.getFileName().toString().replace(".java", "");
                names("the file " + name, text.contains("`" + name));
            }
        }
    }
}
