/**
 * Sentences of the document that tie its parts together, so that no test of a single promise holds them: what
 * counts when, what stays apart, and that all of it holds up to an object's last call. Each method holds one.
 */
public final class DocumentTest {
    private static final int LAST_CALL = 512;

    public static void main(String[] args) {
        lettersAfterLettersAndOtherCalls();
        draftAndLineAreApart();
        noTwoOfOneLanguageAreLike();
        lineIsReadByWhatIsToldThen();
        tokensAreWhatTheLineCameTo();
        joinIsFoundWhereNoWordIs();
        timeTakesItsLettersFromWords();
        rowsOfLettersAreNotCutAgain();
        kindsThatCameLaterCount();
        wordsOfOtherLanguagesMayBeTied();
        refersToTheSameWhenThingsCome();
        flagsHoldWhereverTheyAreNamed();
        objectsAreApart();
        refusedCallsLeaveTheOthersTheirRoom();
        everyCallMayBeTheLast();
        Check.end();
    }

    private static void lettersAfterLettersAndOtherCalls() {
        Check.sentence("A letter comes behind THE DRAFT (whatever is called between)");
        WordTables t = new WordTables(12);
        t.letter('l');
        t.letter('1');
        t.type('x');
        t.letter('a');
        t.read(0);
        t.thing();
        t.letter('m');
        t.flag(1, true);
        t.word(3, 0);
        t.join(0, 0);
        Check.due("the last letter", t.letter('p'), 4);
        Check.due("the word", t.word(0, Check.NOUN), 0);
        Check.tokens(t, "lamp xlamp lam", 0, Check.row(0, 0, 4, 0), Check.row(1, 5, 5, Check.NONE),
                Check.row(1, 11, 3, Check.NONE));
    }

    private static void draftAndLineAreApart() {
        Check.sentence("THE DRAFT is a row of at most 20 letters. / THE LINE has at most 80 bytes.");
        WordTables t = new WordTables(12);
        for (int k = 1; k <= 20; k++) {
            Check.due("a letter", t.letter('a'), k);
            Check.due("a byte", t.type('b'), k);
        }
        Check.due("the draft is full", t.letter('a'), Check.ROOM);
        Check.due("the line is not", t.type('b'), 21);
        Check.due("read", t.read(0), 1);
        Check.due("the draft stays", t.told(0), 20);
        Check.line(t, "cc");
        Check.due("the word", t.word(0, 1), 0);
        Check.due("the line stays", t.told(3), 2);
        Check.due("the tokens stay", t.token(0, 2), 21);
        Check.draft(t, "c");
        Check.due("the join", t.join(0, 0), 1);
        Check.due("the line stays", t.told(3), 2);
        Check.due("it is read", t.read(0), 1);
        Check.due("as it was typed", t.token(0, 2), 2);
    }

    private static void noTwoOfOneLanguageAreLike() {
        Check.sentence("No two of one LANGUAGE are LIKE.");
        String[] rows = {"a", "A", "ab", "AB", "abc", "abd", "abcd", "ABD", "b", "\u0080", "\u0080b", "\u0081b", "aB", "B"};
        WordTables t = new WordTables(3);
        t.fold(0x80, 'a');
        for (int language = 0; language <= 2; language++) {
            for (String row : rows) {
                Check.word(t, row, language, 1);
            }
        }
        Check.due("a ab abc abd b and 129 b, three times", t.told(1), 18);
        for (int one = 0; one < 18; one++) {
            for (int other = 0; other < 18; other++) {
                boolean like = one % 6 == other % 6;
                Check.due("equal(" + one + ", " + other + ")", t.equal(one, other), like ? 1 : 0);
            }
            Check.due("language of " + one, t.about(one, 0), one / 6);
        }
    }

    private static void lineIsReadByWhatIsToldThen() {
        Check.sentence("THE LINE .. is read in a LANGUAGE (by the tables as they are then)");
        WordTables t = new WordTables(12);
        Check.line(t, "\u0080 ab 1:00\u0081m");
        t.fold(0x80, 'a');
        t.fold(0x81, 'p');
        int a = Check.word(t, "a", 0, 1);
        Check.join(t, "ab", a, a);
        Check.due("read", t.read(1), 4);
        Check.token(t, "folded since", 0, Check.row(0, 0, 1, a));
        Check.token(t, "joined since", 1, Check.row(0, 2, 2, a));
        Check.token(t, "joined since", 2, Check.row(0, 2, 2, a));
        Check.token(t, "folded since", 3, Check.row(3, 5, 6, 780));
    }

    private static void tokensAreWhatTheLineCameTo() {
        Check.sentence("READ in a LANGUAGE it comes to TOKENS (and what is told behind changes none)");
        WordTables t = new WordTables(12);
        int a = Check.word(t, "a", 0, Check.NOUN);
        Check.join(t, "c", a, a);
        Check.due("read", Check.read(t, "a b c d", 1), 5);
        int[][] due = {Check.row(0, 0, 1, a), Check.row(1, 2, 1, Check.NONE), Check.row(0, 4, 1, a),
            Check.row(0, 4, 1, a), Check.row(1, 6, 1, Check.NONE)};
        Check.word(t, "a", 1, Check.VERB);
        Check.word(t, "b", 0, Check.VERB);
        Check.word(t, "c", 0, Check.VERB);
        Check.join(t, "d", a, a);
        Check.line(t, "zzzzzzz");
        Check.due("tokens", t.told(4), 5);
        for (int i = 0; i < due.length; i++) {
            Check.token(t, "as it was read", i, due[i]);
            Check.due("its byte", t.at(i, 0), "abccd".charAt(i));
        }
        t.read(0);
        Check.tokens(t, "a b c d", 1, Check.row(0, 0, 1, 1), Check.row(0, 2, 1, 2), Check.row(0, 4, 1, 3),
                Check.row(0, 6, 1, a), Check.row(0, 6, 1, a));
    }

    private static void joinIsFoundWhereNoWordIs() {
        Check.sentence("FOUND in the LANGUAGE, or else in LANGUAGE 0 .. Else the first of JOINS that is LIKE it");
        for (int language = 0; language <= 2; language++) {
            WordTables t = new WordTables(12);
            int a = Check.word(t, "a", 0, 1);
            int b = Check.word(t, "b", language, 1);
            Check.join(t, "b", a, a);
            for (int read = 0; read <= 2; read++) {
                boolean found = language == read || language == 0;
                int[][] word = {Check.row(0, 0, 1, b)};
                int[][] joined = {Check.row(0, 0, 1, a), Check.row(0, 0, 1, a)};
                Check.tokens(t, "b", read, found ? word : joined);
            }
        }
    }

    private static void timeTakesItsLettersFromWords() {
        Check.sentence("if right behind stand two letters, folded a m or p m, .. they belong to it");
        WordTables t = new WordTables(12);
        int am = Check.word(t, "am", 0, Check.VERB);
        Check.join(t, "pm", am, am);
        Check.tokens(t, "1:00am 1:00pm", 0, Check.row(3, 0, 6, 60), Check.row(3, 7, 6, 780));
        Check.tokens(t, "0:00am", 0, Check.row(3, 0, 4, 0), Check.row(0, 4, 2, am));
        Check.tokens(t, "13:00pm", 0, Check.row(3, 0, 5, 780), Check.row(0, 5, 2, am), Check.row(0, 5, 2, am));
        Check.tokens(t, "1:00 am", 0, Check.row(3, 0, 4, 60), Check.row(0, 5, 2, am));
        Check.tokens(t, "1am", 0, Check.row(2, 0, 1, 1), Check.row(0, 1, 2, am));
    }

    private static void rowsOfLettersAreNotCutAgain() {
        Check.sentence("a letter: the row of all letters from there on (and no part of it)");
        WordTables t = new WordTables(12);
        int go = Check.word(t, "go", 0, Check.VERB);
        int in = Check.word(t, "in", 0, Check.PREPOSITION);
        Check.tokens(t, "goin go in", 0, Check.row(1, 0, 4, Check.NONE), Check.row(0, 5, 2, go),
                Check.row(0, 8, 2, in));
        Check.join(t, "goin", in, go);
        Check.tokens(t, "goin goingo", 0, Check.row(0, 0, 4, in), Check.row(0, 0, 4, go),
                Check.row(1, 5, 6, Check.NONE));
    }

    private static void kindsThatCameLaterCount() {
        Check.sentence("which has these, too (a number word, a pronoun, a noun from then on)");
        WordTables t = new WordTables(12);
        int it = Check.word(t, "it", 0, Check.VERB);
        t.thing();
        t.thing();
        t.means(0, it, Check.NONE);
        Check.read(t, "it it", 0);
        Check.due("no number word", t.amountLength(0), 0);
        Check.due("no phrase of a verb", t.phraseLength(0), 0);
        Check.due("it means", t.meant(0), 1);
        Check.word(t, "it", 0, Check.NUMBER);
        Check.due("a number word", t.amountLength(0), 1);
        Check.due("its value", t.value(it, 20), 0);
        Check.due("the amount", t.amount(0), 20);
        Check.due("no phrase of a number word", t.phraseLength(0), 0);
        Check.word(t, "it", 0, Check.PRONOUN);
        Check.due("it refers", t.refer(it, 2), 0);
        Check.due("it means", t.meant(1), 3);
        Check.due("a phrase", t.phrase(0), 3);
        Check.due("of both", t.phraseLength(0), 2);
        Check.due("all its kinds", t.token(1, 4), Check.VERB | Check.NUMBER | Check.PRONOUN);
        Check.due("its value stays", t.about(it, 2), 20);
    }

    private static void wordsOfOtherLanguagesMayBeTied() {
        Check.sentence("may be the PLURAL of another WORD / JOINS .. with two WORDS each (of any LANGUAGE)");
        WordTables t = new WordTables(12);
        t.thing();
        int[] words = new int[3];
        for (int language = 0; language <= 2; language++) {
            words[language] = Check.word(t, "w", language, Check.NOUN);
        }
        Check.due("plural of 1 and 2", t.plural(words[1], words[2]), Check.NONE);
        t.means(0, words[2], Check.NONE);
        Check.join(t, "j", words[1], words[2]);
        for (int language = 0; language <= 2; language++) {
            Check.tokens(t, "w j", language, Check.row(0, 0, 1, words[language]), Check.row(0, 2, 1, words[1]),
                    Check.row(0, 2, 1, words[2]));
            Check.due("meant in " + language, t.meant(0), language == 0 ? 0 : 1);
            Check.due("meant by the plural", t.meant(1), 1);
            Check.due("the phrase of the join", t.phraseLength(1), 2);
        }
        Check.due("each is like the others", t.equal(words[0], words[2]), 1);
    }

    private static void refersToTheSameWhenThingsCome() {
        Check.sentence("A pronoun REFERS to THINGS (and to none that comes later)");
        WordTables t = new WordTables(12);
        int it = Check.word(t, "it", 0, Check.PRONOUN);
        int they = Check.word(t, "they", 0, Check.PRONOUN);
        Check.read(t, "it they", 0);
        int all = 0;
        for (int k = 0; k < 12; k++) {
            t.thing();
            Check.due("to those before", t.about(it, 5), all);
            Check.due("meant", t.meant(0), all);
            all |= 1 << k;
            t.refer(it, all);
            Check.due("to the new one, too", t.meant(0), all);
        }
        Check.due("the other pronoun to none", t.meant(1), 0);
        Check.due("the other pronoun to none", t.about(they, 5), 0);
    }

    private static void flagsHoldWhereverTheyAreNamed() {
        Check.sentence("a THING, a WORD, and a FLAG 0 .. 7, or none, under which it holds");
        WordTables t = new WordTables(12);
        t.flag(2, true);
        for (int k = 0; k < 3; k++) {
            t.thing();
            Check.word(t, "" + (char) ('a' + k), 0, Check.NOUN);
            t.means(k, k, 2);
            t.means(k, k, 3);
        }
        Check.read(t, "a b c", 0);
        for (int f = 0; f < 4; f++) {
            t.flag(2, f % 2 == 1);
            t.flag(3, f / 2 == 1);
            for (int k = 0; k < 3; k++) {
                Check.due("flags " + f + ": meant(" + k + ")", t.meant(k), f == 0 ? 0 : 1 << k);
            }
        }
    }

    private static void objectsAreApart() {
        Check.sentence("No WORDS, THINGS, TOKENS; THE DRAFT and THE LINE are empty. (beside an object in use)");
        WordTables one = Stage.full().told();
        WordTables other = new WordTables(1);
        for (int what = 0; what <= 6; what++) {
            Check.due("new: told(" + what + ")", other.told(what), 0);
        }
        Check.due("its fold", other.fold(128, 'z'), 128);
        Check.due("its flag", other.flag(7, false), 0);
        Check.due("its word", Check.word(other, "zz", 2, 1), 0);
        Check.due("its thing", other.thing(), 0);
        Check.due("its line", Check.read(other, "z,", 2), 2);
        int[] full = {20, 40, 8, 80, 24, 12, 60};
        for (int what = 0; what <= 6; what++) {
            Check.due("full: told(" + what + ")", one.told(what), full[what]);
        }
        Check.due("the full one's flag", one.flag(7, true), 1);
        Check.due("the full one's token", one.at(0, 0), 'a');
        Check.due("the new one's token", other.at(0, 0), 'z');
    }

    private static void refusedCallsLeaveTheOthersTheirRoom() {
        Check.sentence("ROOM (of one table, and not of another)");
        WordTables t = Stage.full().told();
        Check.due("letter", t.letter('a'), Check.ROOM);
        Check.due("type", t.type('a'), Check.ROOM);
        Check.due("thing", t.thing(), Check.ROOM);
        Check.due("means", t.means(0, 0, 0), Check.ROOM);
        Check.due("join", t.join(0, 0), Check.ROOM);
        Check.due("a word LIKE the draft", t.word(0, Check.VERB), 0);
        Check.due("the draft has room", t.letter('a'), 1);
        Check.due("a word LIKE that", t.word(0, Check.VERB), 1);
        Check.due("the line is read", t.read(0), 2);
        Check.due("the line has room", t.type('a'), 1);
        Check.due("value", t.value(1, 7), 1000);
        Check.due("plural", t.plural(2, 3), 1);
        Check.due("refer", t.refer(1, 0), 4093);
        Check.due("flag", t.flag(0, true), 0);
    }

    /** An object with so many calls behind it that the next is its last: 20 tell something, the others ask. */
    private static WordTables atItsLastCall() {
        WordTables t = new WordTables(12);
        t.letter('a');
        t.word(0, 62);
        t.letter('b');
        t.word(0, 62);
        t.value(0, 5);
        t.value(1, 100);
        t.plural(0, 1);
        t.thing();
        t.means(0, 0, 3);
        t.means(0, 1, Check.NONE);
        t.refer(1, 1);
        t.letter('c');
        t.join(0, 1);
        t.type('A');
        t.type(' ');
        t.type('b');
        t.read(0);
        t.letter('d');
        t.type('c');
        t.flag(3, true);
        for (int calls = 20; calls < LAST_CALL - 1; calls++) {
            t.told(calls % 8);
        }
        return t;
    }

    private static void everyCallMayBeTheLast() {
        Check.sentence("An object is used for at most 512 calls after it has been made");
        Check.due("fold", atItsLastCall().fold(128, 'a'), Check.STATE);
        Check.due("letter", atItsLastCall().letter('e'), 2);
        Check.due("word", atItsLastCall().word(0, 1), 2);
        Check.due("value", atItsLastCall().value(0, 6), 5);
        Check.due("plural", atItsLastCall().plural(0, Check.NONE), 1);
        Check.due("join", atItsLastCall().join(0, 1), 2);
        Check.due("type", atItsLastCall().type('x'), 2);
        Check.due("read", atItsLastCall().read(0), 2);
        Check.due("token", atItsLastCall().token(1, 1), 2);
        Check.due("at", atItsLastCall().at(0, 0), 'A');
        Check.due("amount", atItsLastCall().amount(0), 500);
        Check.due("amountLength", atItsLastCall().amountLength(0), 2);
        Check.due("thing", atItsLastCall().thing(), 1);
        Check.due("means", atItsLastCall().means(0, 1, 7), 3);
        Check.due("flag", atItsLastCall().flag(3, false), 1);
        Check.due("refer", atItsLastCall().refer(1, 0), 1);
        Check.due("meant", atItsLastCall().meant(0), 1);
        Check.due("phrase", atItsLastCall().phrase(0), 1);
        Check.due("phraseLength", atItsLastCall().phraseLength(0), 2);
        Check.due("about", atItsLastCall().about(1, 2), 100);
        Check.due("equal", atItsLastCall().equal(0, 1), 0);
        Check.due("told", atItsLastCall().told(6), 2);
    }
}
