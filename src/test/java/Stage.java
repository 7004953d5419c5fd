/**
 * A situation that calls are refused in: what was told to a new object, and lines that bring to light what no
 * call tells of it. None takes more than 320 calls, so that an object can be asked 190 times behind it.
 */
final class Stage {
    static final String FULL_LINE = Check.times('q', 79) + "!";
    static final String LONG_DRAFT = "abcdefghijklmnopqrst";
    private static final int FRESH = 0, USED = 1, FULL = 2, MANY_WORDS = 3;
    /** One KIND is left out, as are most FLAGS, so that it shows where a refused call adds them. */
    private static final int ALL_BUT_VERB = 62;

    final String draft;
    final String line;
    final String[] probes;
    private final int form;

    private Stage(int form, String draft, String line, String... probes) {
        this.form = form;
        this.draft = draft;
        this.line = line;
        this.probes = probes;
    }

    /** Nothing was told. */
    static Stage fresh() {
        return new Stage(FRESH, "", "");
    }

    /** Some of everything: 6 WORDS, 2 JOINS, 9 TOKENS, 3 THINGS, 3 MEANINGS, a FLAG that is up. */
    static Stage used(String draft, String line) {
        return new Stage(USED, draft, line, "lamp go it", "goit xx", "bl\u0081e blue", "lights five");
    }

    static Stage used() {
        return used("lam", "go \u0081 1");
    }

    /** All tables are full: 40 WORDS, 8 JOINS, 24 TOKENS, 12 THINGS, 60 MEANINGS. */
    static Stage full(String draft, String line) {
        return new Stage(FULL, draft, line, "\u0080\u0081\u0082\u0083", "\u0080", "\u0081", "\u0087", "m n");
    }

    static Stage full() {
        return full(LONG_DRAFT, FULL_LINE);
    }

    /** WORDS and JOINS alone are full: no TOKENS, THINGS, MEANINGS. */
    static Stage manyWords(String draft, String line) {
        return new Stage(MANY_WORDS, draft, line, "\u0080", "\u0081", "m n");
    }

    WordTables told() {
        WordTables t = new WordTables(form == USED ? 4 : 12);
        if (form == USED) {
            tellSome(t);
        } else if (form == FULL) {
            tellAllWords(t);
            tellAllThings(t);
        } else if (form == MANY_WORDS) {
            tellAllWords(t);
        }
        Check.draft(t, draft);
        Check.line(t, line);
        return t;
    }

    private static void tellSome(WordTables t) {
        t.fold(0x81, 'u');
        int lamp = Check.word(t, "lamp", 0, Check.NOUN | Check.ADJECTIVE);
        int lights = Check.word(t, "lights", 0, Check.NOUN);
        int it = Check.word(t, "it", 0, Check.PRONOUN);
        Check.number(t, "five", 5);
        int go = Check.word(t, "go", 1, Check.VERB);
        Check.word(t, "bl\u0081e", 2, Check.ADJECTIVE);
        t.plural(lights, lamp);
        Check.join(t, "goit", go, it);
        Check.join(t, "xx", lamp, lamp);
        for (int k = 0; k < 3; k++) {
            t.thing();
        }
        t.means(0, lamp, Check.NONE);
        t.means(1, lamp, 3);
        t.means(2, lights, 7);
        t.flag(3, true);
        t.refer(it, 5);
        Check.read(t, "Lamp it,five goit 9:30pm \"a b\" 77", 1);
    }

    private static void tellAllWords(WordTables t) {
        Check.word(t, LONG_DRAFT, 0, ALL_BUT_VERB);
        for (int k = 0; k < 39; k++) {
            Check.word(t, "" + (char) ('a' + k % 26), k / 26, ALL_BUT_VERB);
        }
        for (int k = 0; k < 8; k++) {
            Check.join(t, "" + (char) (0x80 + k), k, 39 - k);
        }
    }

    private static void tellAllThings(WordTables t) {
        for (int k = 0; k < 12; k++) {
            t.thing();
        }
        for (int k = 0; k < 60; k++) {
            t.means(k % 12, 1 + k % 13, k % 9 - 1);
        }
        t.flag(1, true);
        t.flag(7, true);
        t.value(1, 1000);
        t.plural(2, 1);
        t.refer(1, 4093);
        Check.read(t, "a.b.c.d.e.f.g.h.i.j.k.l.", 0);
    }
}
