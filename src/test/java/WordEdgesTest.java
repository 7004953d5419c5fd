/** The boundaries that the document names of WORDS and JOINS: promises 4 to 7, 21 and 22; each method holds one. */
public final class WordEdgesTest {
    public static void main(String[] args) {
        languages();
        kinds();
        kindsAreAdded();
        likeInItsLanguageAlone();
        lettersToldFirst();
        noWords();
        fortyWords();
        likeOneWithFortyWords();
        values();
        valueAtFirst();
        valueOfANumberWordAlone();
        pluralOfAnother();
        pluralOfNone();
        pluralOfTheFirstAndTheLast();
        joinOfTheFirstAndTheLast();
        eightJoins();
        joinsMayBeLike();
        aboutEachWhat();
        equalOfTheFirstAndTheLast();
        Check.end();
    }

    /** Forty words: the letters of a .. z and, folded by nothing, some of 128 on, language by language. */
    private static WordTables forty(int kinds) {
        WordTables t = new WordTables(12);
        for (int k = 0; k < 40; k++) {
            Check.due("word " + k, Check.word(t, spelled(k), k % 3, kinds), k);
        }
        return t;
    }

    private static String spelled(int k) {
        return "" + (char) (k < 26 ? 'a' + k : 128 + k - 26);
    }

    private static void languages() {
        Check.sentence("a LANGUAGE 0 .. 2");
        WordTables t = new WordTables(12);
        for (int language = 0; language <= 2; language++) {
            Check.due("word in " + language, Check.word(t, "same", language, 1), language);
            Check.due("its language", t.about(language, 0), language);
        }
        Check.draft(t, "other");
        Check.due("word in -1", t.word(-1, 1), Check.OUTSIDE);
        Check.due("word in 3", t.word(3, 1), Check.OUTSIDE);
        Check.due("the draft stays", t.told(0), 5);
    }

    private static void kinds() {
        Check.sentence("with KINDS (bits 0 .. 63)");
        for (int kinds = 0; kinds <= 63; kinds++) {
            WordTables t = new WordTables(12);
            Check.due("kinds " + kinds, Check.word(t, "a", 0, kinds), 0);
            Check.due("its kinds", t.about(0, 1), kinds);
            Check.read(t, "a", 0);
            Check.due("its token's kinds", t.token(0, 4), kinds);
        }
        WordTables t = new WordTables(12);
        Check.draft(t, "a");
        Check.due("kinds -1", t.word(0, -1), Check.OUTSIDE);
        Check.due("kinds 64", t.word(0, 64), Check.OUTSIDE);
        Check.due("kinds 127", t.word(0, 127), Check.OUTSIDE);
        Check.due("the draft stays", t.told(0), 1);
        Check.due("no word came", t.told(1), 0);
    }

    private static void kindsAreAdded() {
        Check.sentence("a new one, or the LIKE one of that LANGUAGE, which has these, too: its number.");
        WordTables t = new WordTables(12);
        Check.word(t, "a", 0, 0);
        int all = 0;
        for (int kind = 1; kind <= 32; kind *= 2) {
            Check.due("again", Check.word(t, "A", 0, kind), 0);
            all |= kind;
            Check.due("its kinds", t.about(0, 1), all);
            Check.due("with none", Check.word(t, "a", 0, 0), 0);
            Check.due("its kinds stay", t.about(0, 1), all);
            Check.due("the draft is empty then", t.told(0), 0);
        }
        Check.due("words", t.told(1), 1);
    }

    private static void likeInItsLanguageAlone() {
        Check.sentence("No two of one LANGUAGE are LIKE.");
        for (int one = 0; one <= 2; one++) {
            for (int other = 0; other <= 2; other++) {
                WordTables t = new WordTables(3);
                Check.word(t, "lamp", one, 1);
                Check.due("the same in " + other, Check.word(t, "LAM", other, 2), one == other ? 0 : 1);
                Check.due("words", t.told(1), one == other ? 1 : 2);
                Check.due("kinds of the first", t.about(0, 1), one == other ? 3 : 1);
                Check.due("one letter less", Check.word(t, "la", other, 2), one == other ? 1 : 2);
            }
        }
    }

    private static void lettersToldFirst() {
        Check.sentence("WORDS .. have the letters that were told first");
        WordTables t = new WordTables(3);
        Check.word(t, "lam", 0, 1);
        Check.word(t, Check.times('l', 20), 1, 1);
        Check.due("like the first, longer", Check.word(t, "lamplighterlamplight", 0, 2), 0);
        Check.due("its letters", t.about(0, 4), 3);
        Check.due("like the second, shorter", Check.word(t, "lll", 1, 2), 1);
        Check.due("its letters", t.about(1, 4), 20);
    }

    private static void noWords() {
        Check.sentence("WORDS, 40 at most, from 0 on: none");
        WordTables t = new WordTables(12);
        Check.due("value", t.value(0, 0), Check.UNKNOWN);
        Check.due("plural", t.plural(0, Check.NONE), Check.UNKNOWN);
        Check.draft(t, "a");
        Check.due("join", t.join(0, 0), Check.UNKNOWN);
        t.thing();
        Check.due("means", t.means(0, 0, 0), Check.UNKNOWN);
        Check.due("refer", t.refer(0, 0), Check.UNKNOWN);
        Check.due("about", t.about(0, 0), Check.UNKNOWN);
        Check.due("equal", t.equal(0, 0), Check.UNKNOWN);
        Check.due("read", Check.read(t, "a", 0), 1);
        Check.due("no word is found", t.token(0, 0), 1);
        Check.due("the first", t.word(0, 1), 0);
        Check.due("about the first", t.about(0, 1), 1);
        Check.due("about the next", t.about(1, 1), Check.UNKNOWN);
    }

    private static void fortyWords() {
        Check.sentence("WORDS, 40 at most, from 0 on: all; ROOM (it stays)");
        for (int language = 0; language <= 2; language++) {
            WordTables t = forty(1);
            Check.due("words", t.told(1), 40);
            Check.draft(t, "new");
            Check.due("a 41st", t.word(language, 1), Check.ROOM);
            Check.due("a 41st again", t.word(language, 1), Check.ROOM);
            Check.due("the draft stays", t.told(0), 3);
            Check.due("words stay", t.told(1), 40);
            Check.due("a join of it", t.join(39, 0), 1);
            Check.due("read", Check.read(t, "new", language), 2);
            Check.due("the join's first", t.token(0, 3), 39);
            Check.due("the join's second", t.token(1, 3), 0);
            Check.due("the last is known", t.about(39, 0), 0);
            Check.due("the next is not", t.about(40, 0), Check.UNKNOWN);
            Check.due("the last is found", Check.read(t, spelled(39), 0), 1);
            Check.due("by its number", t.token(0, 3), 39);
        }
    }

    private static void likeOneWithFortyWords() {
        Check.sentence("a new one, or the LIKE one of that LANGUAGE .. ROOM: with all WORDS there");
        WordTables t = forty(1);
        for (int k : new int[] {0, 1, 38, 39}) {
            Check.due("like word " + k, Check.word(t, spelled(k), k % 3, 32), k);
            Check.due("its kinds", t.about(k, 1), 33);
            Check.due("in another language", Check.word(t, spelled(k), (k + 1) % 3, 32), Check.ROOM);
            Check.due("the draft stays", t.told(0), 1);
            Check.due("it is the word still", t.word(k % 3, 2), k);
            Check.due("the draft is empty", t.told(0), 0);
        }
        Check.due("words", t.told(1), 40);
    }

    private static void values() {
        Check.sentence("a VALUE 0 .. 1000");
        WordTables t = new WordTables(12);
        int word = Check.word(t, "a", 0, Check.NUMBER);
        Check.due("0", t.value(word, 0), 0);
        Check.due("1000", t.value(word, 1000), 0);
        Check.due("1001", t.value(word, 1001), Check.OUTSIDE);
        Check.due("it stays", t.about(word, 2), 1000);
        Check.due("999", t.value(word, 999), 1000);
        Check.due("1", t.value(word, 1), 999);
        Check.due("-1", t.value(word, -1), Check.OUTSIDE);
        Check.due("it stays", t.about(word, 2), 1);
        Check.due("0 again", t.value(word, 0), 1);
        Check.due("it is 0", t.about(word, 2), 0);
    }

    private static void valueAtFirst() {
        Check.sentence("a VALUE 0 .. 1000 (0 at first)");
        WordTables t = forty(Check.NUMBER);
        for (int k = 0; k < 40; k++) {
            Check.due("about " + k, t.about(k, 2), 0);
            Check.due("value " + k, t.value(k, k + 1), 0);
        }
        for (int k = 0; k < 40; k++) {
            Check.due("about " + k, t.about(k, 2), k + 1);
        }
    }

    private static void valueOfANumberWordAlone() {
        Check.sentence("The VALUE of a number word: what it was. .. STATE: it is no number word.");
        for (int kinds = 0; kinds <= 63; kinds++) {
            WordTables t = new WordTables(12);
            Check.word(t, "a", 0, kinds);
            boolean number = kinds >= 32;
            Check.due("with kinds " + kinds, t.value(0, 7), number ? 0 : Check.STATE);
            Check.due("its value", t.about(0, 2), number ? 7 : 0);
            Check.word(t, "a", 0, Check.NUMBER);
            Check.due("a number word since", t.value(0, 8), number ? 7 : 0);
        }
    }

    private static void pluralOfAnother() {
        Check.sentence("STATE: they are the same.");
        WordTables t = forty(1);
        for (int k : new int[] {0, 1, 38, 39}) {
            Check.due("of itself " + k, t.plural(k, k), Check.STATE);
            Check.due("it is of none", t.about(k, 3), Check.NONE);
            int other = k == 0 ? 39 : k - 1;
            Check.due("of another " + k, t.plural(k, other), Check.NONE);
            Check.due("of itself " + k, t.plural(k, k), Check.STATE);
            Check.due("it stays", t.about(k, 3), other);
        }
    }

    private static void pluralOfNone() {
        Check.sentence("A WORD is the PLURAL of another one (NONE: of none): of which it was, NONE.");
        WordTables t = new WordTables(12);
        Check.word(t, "a", 0, 1);
        Check.due("alone: of none", t.plural(0, Check.NONE), Check.NONE);
        Check.due("alone: of a next one", t.plural(0, 1), Check.UNKNOWN);
        Check.word(t, "b", 1, 1);
        Check.due("of none at first", t.plural(1, Check.NONE), Check.NONE);
        Check.due("of the other", t.plural(1, 0), Check.NONE);
        Check.due("of the other again", t.plural(1, 0), 0);
        Check.due("of none", t.plural(1, Check.NONE), 0);
        Check.due("of none again", t.plural(1, Check.NONE), Check.NONE);
        Check.due("-2 is no NONE", t.plural(1, -2), Check.UNKNOWN);
    }

    private static void pluralOfTheFirstAndTheLast() {
        Check.sentence("Promise 6: UNKNOWN (no such WORD)");
        WordTables t = forty(1);
        Check.due("the last of the first", t.plural(39, 0), Check.NONE);
        Check.due("the first of the last", t.plural(0, 39), Check.NONE);
        Check.due("one behind the last", t.plural(40, 0), Check.UNKNOWN);
        Check.due("of one behind the last", t.plural(0, 40), Check.UNKNOWN);
        Check.due("one before the first", t.plural(-1, 0), Check.UNKNOWN);
        Check.due("that stays", t.about(0, 3), 39);
        Check.due("that stays", t.about(39, 3), 0);
    }

    private static void joinOfTheFirstAndTheLast() {
        Check.sentence("Promise 7: UNKNOWN (no such WORD)");
        WordTables t = forty(1);
        Check.draft(t, "zz");
        for (int w : new int[] {-1, 40}) {
            Check.due("join(" + w + ", 0)", t.join(w, 0), Check.UNKNOWN);
            Check.due("join(0, " + w + ")", t.join(0, w), Check.UNKNOWN);
            Check.due("the draft stays", t.told(0), 2);
        }
        Check.due("join(0, 39)", t.join(0, 39), 1);
        Check.due("read", Check.read(t, "zz", 0), 2);
        Check.due("its first", t.token(0, 3), 0);
        Check.due("its second", t.token(1, 3), 39);
        Check.due("of one word twice", Check.join(t, "yy", 39, 39), 2);
    }

    private static void eightJoins() {
        Check.sentence("JOINS, 8 at most");
        WordTables t = new WordTables(12);
        for (int k = 0; k < 9; k++) {
            Check.word(t, "w" + (char) ('a' + k), 0, 1);
        }
        for (int k = 0; k < 8; k++) {
            Check.due("joins before", t.told(2), k);
            Check.due("join " + (k + 1), Check.join(t, "j" + (char) ('a' + k), k, k + 1), k + 1);
            Check.due("the draft is empty then", t.told(0), 0);
        }
        Check.due("a ninth", Check.join(t, "ji", 8, 8), Check.ROOM);
        Check.due("a ninth again", t.join(8, 8), Check.ROOM);
        Check.due("joins", t.told(2), 8);
        Check.due("the draft stays", t.told(0), 2);
        Check.due("read", Check.read(t, "ja jb jc jd je jf jg jh ji", 0), 17);
        for (int k = 0; k < 8; k++) {
            Check.due("first of " + k, t.token(2 * k, 3), k);
            Check.due("second of " + k, t.token(2 * k + 1, 3), k + 1);
        }
        Check.due("the ninth is none", t.token(16, 0), 1);
        Check.due("the draft is a word", t.word(0, 1), 9);
    }

    private static void joinsMayBeLike() {
        Check.sentence("Else the first of JOINS that is LIKE it");
        WordTables t = new WordTables(2);
        Check.word(t, "a", 0, 1);
        Check.word(t, "b", 0, 1);
        Check.due("one", Check.join(t, "xyz", 0, 1), 1);
        Check.due("one LIKE it", Check.join(t, "XY", 1, 0), 2);
        Check.due("one LIKE a word", Check.join(t, "a", 1, 1), 3);
        Check.due("read", Check.read(t, "xyx a", 0), 3);
        Check.due("the first one's first", t.token(0, 3), 0);
        Check.due("the first one's second", t.token(1, 3), 1);
        Check.due("the word goes before", t.token(2, 3), 0);
    }

    private static void aboutEachWhat() {
        Check.sentence("Of a WORD: what = 0 .. 5; UNKNOWN (another what)");
        WordTables t = forty(Check.PRONOUN | Check.NUMBER);
        t.thing();
        t.value(39, 1000);
        t.plural(39, 38);
        t.refer(39, 1);
        int[] first = {0, 48, 0, Check.NONE, 1, 0};
        int[] last = {0, 48, 1000, 38, 1, 1};
        for (int what = 0; what <= 5; what++) {
            Check.due("about(0, " + what + ")", t.about(0, what), first[what]);
            Check.due("about(39, " + what + ")", t.about(39, what), last[what]);
            Check.due("about(40, " + what + ")", t.about(40, what), Check.UNKNOWN);
            Check.due("about(-1, " + what + ")", t.about(-1, what), Check.UNKNOWN);
        }
        for (int what : Check.beyond(0, 5)) {
            Check.due("about(0, " + what + ")", t.about(0, what), Check.UNKNOWN);
        }
    }

    private static void equalOfTheFirstAndTheLast() {
        Check.sentence("Whether two WORDS are LIKE (1, 0). UNKNOWN.");
        WordTables t = forty(1);
        Check.due("the first and the last", t.equal(0, 39), 0);
        Check.due("the first and itself", t.equal(0, 0), 1);
        Check.due("the last and itself", t.equal(39, 39), 1);
        for (int w : Check.beyond(0, 39)) {
            Check.due("equal(" + w + ", 0)", t.equal(w, 0), Check.UNKNOWN);
            Check.due("equal(39, " + w + ")", t.equal(39, w), Check.UNKNOWN);
            Check.due("equal(" + w + ", the same)", t.equal(w, w), Check.UNKNOWN);
        }
    }
}
