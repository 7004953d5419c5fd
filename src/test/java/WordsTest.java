/** Promises 4 (word), 5 (value), 6 (plural), 7 (join), 21 (about), 22 (equal). */
public final class WordsTest {
    public static void main(String[] args) {
        wordIsNewOrTheLikeOne();
        wordRefuses();
        wordsHaveRoomForForty();
        valueIsOfNumberWords();
        pluralIsOfAnotherWord();
        joinTakesTheDraft();
        aboutTellsOfAWord();
        equalIsLikeInAnyLanguage();
        Check.end();
    }

    private static void wordIsNewOrTheLikeOne() {
        WordTables t = new WordTables(4);
        Check.due("lamp", Check.word(t, "lamp", 0, Check.VERB), 0);
        Check.due("draft is empty then", t.told(0), 0);
        Check.due("LAMPS", Check.word(t, "LAMPS", 0, Check.NOUN), 0);
        Check.due("draft is empty then, too", t.told(0), 0);
        Check.due("kinds of both", t.about(0, 1), Check.VERB | Check.NOUN);
        Check.due("letters told first", t.about(0, 4), 4);
        Check.due("words", t.told(1), 1);
        Check.due("lam is shorter", Check.word(t, "lam", 0, 0), 1);
        Check.due("la is shorter", Check.word(t, "la", 0, 0), 2);
        Check.due("lamp in 1", Check.word(t, "lamp", 1, 63), 3);
        Check.due("lamp in 2", Check.word(t, "lampshade", 2, 0), 4);
        Check.due("lamp in 2 again", Check.word(t, "lamp", 2, 8), 4);
        Check.due("its language", t.about(4, 0), 2);
        Check.due("its kinds", t.about(4, 1), 8);
        Check.due("its letters", t.about(4, 4), 9);
        Check.due("lamp in 0 is the old one", Check.word(t, "Lampe", 0, Check.ADJECTIVE), 0);
        Check.due("kinds of all", t.about(0, 1), 7);
        Check.due("the other language's kinds stay", t.about(3, 1), 63);
    }

    private static void wordRefuses() {
        WordTables t = new WordTables(6);
        Check.due("outside before state", t.word(3, 0), Check.OUTSIDE);
        Check.due("outside before state", t.word(0, 64), Check.OUTSIDE);
        Check.due("empty", t.word(0, 0), Check.STATE);
        Check.draft(t, "go");
        int[] wrong = {-1, 3, Integer.MIN_VALUE, Integer.MAX_VALUE};
        for (int language : wrong) {
            Check.due("language " + language, t.word(language, 1), Check.OUTSIDE);
        }
        int[] kinds = {-1, 64, Integer.MIN_VALUE, Integer.MAX_VALUE};
        for (int k : kinds) {
            Check.due("kinds " + k, t.word(0, k), Check.OUTSIDE);
        }
        Check.due("the draft stays", t.told(0), 2);
        Check.due("no words", t.told(1), 0);
        Check.due("kinds 0", t.word(2, 0), 0);
    }

    static WordTables forty() {
        WordTables t = new WordTables(3);
        for (int k = 0; k < 40; k++) {
            Check.word(t, "" + (char) ('a' + k % 20) + (char) ('b' + k / 20), k % 3, Check.NOUN);
        }
        return t;
    }

    private static void wordsHaveRoomForForty() {
        WordTables t = forty();
        Check.due("forty", t.told(1), 40);
        Check.due("a 41st", Check.word(t, "new", 0, 1), Check.ROOM);
        Check.due("the draft stays", t.told(0), 3);
        Check.due("outside before room", t.word(-1, 1), Check.OUTSIDE);
        Check.due("it may be a join", t.join(0, 39), 1);
        Check.due("a like one is not a 41st", Check.word(t, "ab", 0, Check.NUMBER), 0);
        Check.due("which has these too", t.about(0, 1), Check.NOUN | Check.NUMBER);
        Check.due("words", t.told(1), 40);
        Check.due("the last", t.about(39, 4), 2);
        Check.due("behind the last", t.about(40, 4), Check.UNKNOWN);
    }

    private static void valueIsOfNumberWords() {
        WordTables t = new WordTables(6);
        int five = Check.word(t, "five", 0, Check.NUMBER | Check.NOUN);
        int lamp = Check.word(t, "lamp", 0, 31);
        Check.due("at first", t.value(five, 5), 0);
        Check.due("then", t.value(five, 1000), 5);
        Check.due("then", t.value(five, 0), 1000);
        Check.due("then", t.value(five, 7), 0);
        Check.due("1001", t.value(five, 1001), Check.OUTSIDE);
        Check.due("-1", t.value(five, -1), Check.OUTSIDE);
        Check.due("min", t.value(five, Integer.MIN_VALUE), Check.OUTSIDE);
        Check.due("it stays", t.about(five, 2), 7);
        Check.due("no number word", t.value(lamp, 5), Check.STATE);
        Check.due("outside before state", t.value(lamp, 1001), Check.OUTSIDE);
        Check.due("unknown", t.value(2, 5), Check.UNKNOWN);
        Check.due("unknown", t.value(-1, 5), Check.UNKNOWN);
        Check.due("unknown before outside", t.value(Integer.MAX_VALUE, 1001), Check.UNKNOWN);
        Check.due("a number word later", Check.word(t, "lamp", 0, Check.NUMBER), lamp);
        Check.due("its value", t.value(lamp, 9), 0);
        Check.due("its value", t.about(lamp, 2), 9);
    }

    private static void pluralIsOfAnotherWord() {
        WordTables t = new WordTables(6);
        int lamp = Check.word(t, "lamp", 0, Check.NOUN);
        int lamps = Check.word(t, "lamps", 1, Check.NOUN);
        Check.due("at first", t.about(lamps, 3), Check.NONE);
        Check.due("of lamp", t.plural(lamps, lamp), Check.NONE);
        Check.due("of lamp", t.about(lamps, 3), lamp);
        Check.due("again", t.plural(lamps, lamp), lamp);
        Check.due("each of the other", t.plural(lamp, lamps), Check.NONE);
        Check.due("of none", t.plural(lamps, Check.NONE), lamp);
        Check.due("of none again", t.plural(lamps, Check.NONE), Check.NONE);
        Check.due("of itself", t.plural(lamps, lamps), Check.STATE);
        Check.due("unknown word", t.plural(2, lamp), Check.UNKNOWN);
        Check.due("unknown word", t.plural(-1, -1), Check.UNKNOWN);
        Check.due("unknown before state", t.plural(2, 2), Check.UNKNOWN);
        Check.due("unknown of", t.plural(lamp, 2), Check.UNKNOWN);
        Check.due("unknown of", t.plural(lamp, -2), Check.UNKNOWN);
        Check.due("it stays", t.about(lamp, 3), lamps);
    }

    private static void joinTakesTheDraft() {
        WordTables t = new WordTables(6);
        Check.draft(t, "goto");
        Check.due("no words", t.join(0, 0), Check.UNKNOWN);
        Check.due("the draft stays", t.told(0), 4);
        Check.due("word", t.word(0, 1), 0);
        Check.due("unknown before state", t.join(0, 1), Check.UNKNOWN);
        Check.due("unknown before state", t.join(-1, 0), Check.UNKNOWN);
        Check.due("empty", t.join(0, 0), Check.STATE);
        for (int k = 1; k <= 8; k++) {
            Check.due("join " + k, Check.join(t, "x", 0, 0), k);
            Check.due("the draft then", t.told(0), 0);
            Check.due("joins", t.told(2), k);
        }
        Check.due("state before room", t.join(0, 0), Check.STATE);
        Check.due("a ninth", Check.join(t, "yy", 0, 0), Check.ROOM);
        Check.due("the draft stays", t.told(0), 2);
        Check.due("unknown before room", t.join(0, 7), Check.UNKNOWN);
        Check.due("joins", t.told(2), 8);
        Check.due("words", t.told(1), 1);
    }

    private static void aboutTellsOfAWord() {
        WordTables t = new WordTables(2);
        int it = Check.word(t, "itself", 2, Check.PRONOUN | Check.NUMBER);
        int go = Check.word(t, "g", 1, 0);
        t.thing();
        t.thing();
        t.value(it, 77);
        t.plural(it, go);
        t.refer(it, 3);
        int[] want = {2, 48, 77, go, 6, 3};
        int[] other = {1, 0, 0, Check.NONE, 1, 0};
        for (int what = 0; what < 6; what++) {
            Check.due("about(it, " + what + ")", t.about(it, what), want[what]);
            Check.due("about(go, " + what + ")", t.about(go, what), other[what]);
        }
        int[] wrong = {-1, 6, Integer.MIN_VALUE, Integer.MAX_VALUE};
        for (int w : wrong) {
            Check.due("about(it, " + w + ")", t.about(it, w), Check.UNKNOWN);
        }
        int[] unknown = {-1, 2, 40, Integer.MIN_VALUE, Integer.MAX_VALUE};
        for (int w : unknown) {
            Check.due("about(" + w + ", 0)", t.about(w, 0), Check.UNKNOWN);
        }
    }

    private static void equalIsLikeInAnyLanguage() {
        WordTables t = new WordTables(4);
        t.fold(0x81, 'u');
        Check.word(t, "BLUEBIRD", 0, 1);
        Check.word(t, "bl\u0081e", 1, 1);
        Check.word(t, "blu", 1, 1);
        Check.word(t, "blur", 1, 1);
        Check.word(t, "bl\u0082e", 2, 1);
        Check.due("like at the cut", t.equal(0, 1), 1);
        Check.due("like the other way", t.equal(1, 0), 1);
        Check.due("itself", t.equal(2, 2), 1);
        Check.due("shorter", t.equal(0, 2), 0);
        Check.due("shorter the other way", t.equal(2, 0), 0);
        Check.due("another last letter", t.equal(0, 3), 0);
        Check.due("another fold", t.equal(0, 4), 0);
        Check.due("unknown", t.equal(0, 5), Check.UNKNOWN);
        Check.due("unknown", t.equal(5, 0), Check.UNKNOWN);
        Check.due("unknown", t.equal(-1, -1), Check.UNKNOWN);
    }
}
