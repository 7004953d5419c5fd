/**
 * "Refused, and nothing changes, of several the first that a call names": for every call each refusal, which of
 * several is the answer, and, by twins, that nothing has changed after it.
 */
public final class RefusalTest {
    private static final int NONE = Check.NONE, UNKNOWN = Check.UNKNOWN, OUTSIDE = Check.OUTSIDE;
    private static final int STATE = Check.STATE, ROOM = Check.ROOM;
    private static final Stage FRESH = Stage.fresh(), USED = Stage.used(), FULL = Stage.full();
    /** How many there are in use, and so the first number that is not known. */
    private static final int WORDS = 6, TOKENS = 9, THINGS = 3;
    private static final int LAMP = 0, IT = 2, FIVE = 3;

    public static void main(String[] args) {
        stagesAreAsTold();
        fold();
        letter();
        word();
        value();
        plural();
        join();
        type();
        read();
        token();
        at();
        amount();
        thing();
        means();
        flag();
        refer();
        meaning();
        about();
        equal();
        told();
        Check.end();
    }

    private static void stage(String name, Stage stage, int... counts) {
        WordTables t = stage.told();
        for (int what = 0; what < counts.length; what++) {
            Check.due(name + ": told(" + what + ")", t.told(what), counts[what]);
        }
    }

    private static void stagesAreAsTold() {
        Check.sentence("stages");
        stage("fresh", FRESH, 0, 0, 0, 0, 0, 0, 0);
        stage("used", USED, 3, WORDS, 2, 6, TOKENS, THINGS, 3);
        stage("full", FULL, 20, 40, 8, 80, 24, 12, 60);
        stage("many words", Stage.manyWords("abc", "go"), 3, 40, 8, 2, 0, 0, 0);
    }

    private static void fold() {
        Check.sentence("Promise 2: OUTSIDE; STATE: there are WORDS or JOINS.");
        for (int from : Check.beyond(128, 159)) {
            Twins.refuse(FRESH, "fold(" + from + ", a)", OUTSIDE, t -> t.fold(from, 'a'));
            Twins.refuse(FRESH, "fold(" + from + ", A)", OUTSIDE, t -> t.fold(from, 'A'));
            Twins.refuse(USED, "with words fold(" + from + ", a)", OUTSIDE, t -> t.fold(from, 'a'));
        }
        for (int to : Check.beyond('a', 'z')) {
            Twins.refuse(FRESH, "fold(128, " + to + ")", OUTSIDE, t -> t.fold(128, to));
            Twins.refuse(USED, "with words fold(159, " + to + ")", OUTSIDE, t -> t.fold(159, to));
        }
        Twins.refuse(USED, "with words fold(129, b)", STATE, t -> t.fold(129, 'b'));
        Twins.refuse(FULL, "with all words fold(128, a)", STATE, t -> t.fold(128, 'a'));
        Twins.refuse(FULL, "with all words fold(159, z)", STATE, t -> t.fold(159, 'z'));
    }

    private static void letter() {
        Check.sentence("Promise 3: OUTSIDE: it is none; ROOM.");
        int[] none = {Integer.MIN_VALUE, -1, 0, 64, 91, 96, 123, 127, 160, 255, 256 + 'a', Integer.MAX_VALUE};
        for (int c : none) {
            Twins.refuse(FRESH, "letter(" + c + ")", OUTSIDE, t -> t.letter(c));
            Twins.refuse(USED, "in use letter(" + c + ")", OUTSIDE, t -> t.letter(c));
            Twins.refuse(FULL, "full letter(" + c + ")", OUTSIDE, t -> t.letter(c));
        }
        Stage longDraft = Stage.used(Stage.LONG_DRAFT, "go");
        for (int c : new int[] {'A', 'Z', 'a', 'z', 128, 159}) {
            Twins.refuse(FULL, "full letter(" + c + ")", ROOM, t -> t.letter(c));
            Twins.refuse(longDraft, "full draft letter(" + c + ")", ROOM, t -> t.letter(c));
        }
    }

    private static void word() {
        Check.sentence("Promise 4: OUTSIDE (THE DRAFT stays); STATE: THE DRAFT is empty; ROOM (it stays).");
        Stage emptyDraft = Stage.full("", "go");
        Stage newDraft = Stage.full("abcdefghijkm", "go");
        Stage manyWords = Stage.manyWords("abcdefghijkm", "go");
        for (int language : Check.beyond(0, 2)) {
            Twins.refuse(USED, "word(" + language + ", 1)", OUTSIDE, t -> t.word(language, 1));
            Twins.refuse(FRESH, "empty: word(" + language + ", 1)", OUTSIDE, t -> t.word(language, 1));
            Twins.refuse(newDraft, "full: word(" + language + ", 1)", OUTSIDE, t -> t.word(language, 1));
        }
        for (int kinds : Check.beyond(0, 63)) {
            Twins.refuse(USED, "word(0, " + kinds + ")", OUTSIDE, t -> t.word(0, kinds));
            Twins.refuse(FRESH, "empty: word(0, " + kinds + ")", OUTSIDE, t -> t.word(0, kinds));
            Twins.refuse(newDraft, "full: word(0, " + kinds + ")", OUTSIDE, t -> t.word(0, kinds));
        }
        for (int language = 0; language <= 2; language++) {
            int l = language;
            Twins.refuse(FRESH, "empty: word(" + l + ", 63)", STATE, t -> t.word(l, 63));
            Twins.refuse(Stage.used("", "go"), "in use: word(" + l + ", 63)", STATE, t -> t.word(l, 63));
            Twins.refuse(emptyDraft, "empty and full: word(" + l + ", 63)", STATE, t -> t.word(l, 63));
            Twins.refuse(newDraft, "full: word(" + l + ", 63)", ROOM, t -> t.word(l, 63));
            Twins.refuse(manyWords, "full words: word(" + l + ", 63)", ROOM, t -> t.word(l, 63));
        }
        Twins.refuse(FULL, "full, like one of another language: word(1, 0)", ROOM, t -> t.word(1, 0));
    }

    private static void value() {
        Check.sentence("Promise 5: UNKNOWN; OUTSIDE; STATE: it is no number word.");
        for (int w : Check.beyond(0, WORDS - 1)) {
            Twins.refuse(USED, "value(" + w + ", 5)", UNKNOWN, t -> t.value(w, 5));
            Twins.refuse(USED, "value(" + w + ", 1001)", UNKNOWN, t -> t.value(w, 1001));
        }
        for (int v : Check.beyond(0, 1000)) {
            Twins.refuse(USED, "value(five, " + v + ")", OUTSIDE, t -> t.value(FIVE, v));
            Twins.refuse(USED, "value(lamp, " + v + ")", OUTSIDE, t -> t.value(LAMP, v));
        }
        for (int v : new int[] {0, 1, 1000}) {
            Twins.refuse(USED, "value(lamp, " + v + ")", STATE, t -> t.value(LAMP, v));
            Twins.refuse(FRESH, "no words: value(0, " + v + ")", UNKNOWN, t -> t.value(0, v));
            Twins.refuse(FULL, "all words: value(40, " + v + ")", UNKNOWN, t -> t.value(40, v));
        }
    }

    private static void plural() {
        Check.sentence("Promise 6: UNKNOWN; STATE: they are the same.");
        for (int w : Check.beyond(0, WORDS - 1)) {
            Twins.refuse(USED, "plural(" + w + ", lamp)", UNKNOWN, t -> t.plural(w, LAMP));
            Twins.refuse(USED, "plural(" + w + ", the same)", UNKNOWN, t -> t.plural(w, w));
            Twins.refuse(USED, "plural(" + w + ", NONE)", UNKNOWN, t -> t.plural(w, NONE));
        }
        for (int of : new int[] {-2, WORDS, Integer.MIN_VALUE, Integer.MAX_VALUE}) {
            Twins.refuse(USED, "plural(lights, " + of + ")", UNKNOWN, t -> t.plural(1, of));
        }
        for (int w = 0; w < WORDS; w++) {
            int same = w;
            Twins.refuse(USED, "plural(" + w + ", " + w + ")", STATE, t -> t.plural(same, same));
        }
        Twins.refuse(FRESH, "no words: plural(0, NONE)", UNKNOWN, t -> t.plural(0, NONE));
        Twins.refuse(FULL, "all words: plural(39, 39)", STATE, t -> t.plural(39, 39));
        Twins.refuse(FULL, "all words: plural(39, 40)", UNKNOWN, t -> t.plural(39, 40));
        Twins.refuse(FULL, "all words: plural(40, 39)", UNKNOWN, t -> t.plural(40, 39));
    }

    private static void join() {
        Check.sentence("Promise 7: UNKNOWN; STATE: THE DRAFT is empty; ROOM.");
        Stage emptyDraft = Stage.used("", "go");
        Stage fullEmptyDraft = Stage.full("", "go");
        Stage shortDraft = Stage.full("abc", "go");
        for (int w : Check.beyond(0, WORDS - 1)) {
            Twins.refuse(USED, "join(" + w + ", lamp)", UNKNOWN, t -> t.join(w, LAMP));
            Twins.refuse(USED, "join(lamp, " + w + ")", UNKNOWN, t -> t.join(LAMP, w));
            Twins.refuse(emptyDraft, "empty: join(" + w + ", lamp)", UNKNOWN, t -> t.join(w, LAMP));
            Twins.refuse(emptyDraft, "empty: join(lamp, " + w + ")", UNKNOWN, t -> t.join(LAMP, w));
        }
        for (int w : Check.beyond(0, 39)) {
            Twins.refuse(FULL, "full: join(" + w + ", 0)", UNKNOWN, t -> t.join(w, 0));
            Twins.refuse(FULL, "full: join(0, " + w + ")", UNKNOWN, t -> t.join(0, w));
        }
        Twins.refuse(FRESH, "no words: join(0, 0)", UNKNOWN, t -> t.join(0, 0));
        Twins.refuse(emptyDraft, "empty: join(0, 5)", STATE, t -> t.join(0, 5));
        Twins.refuse(fullEmptyDraft, "empty and full: join(0, 39)", STATE, t -> t.join(0, 39));
        Twins.refuse(FULL, "full: join(0, 39)", ROOM, t -> t.join(0, 39));
        Twins.refuse(shortDraft, "full: join(39, 0)", ROOM, t -> t.join(39, 0));
        Twins.refuse(Stage.manyWords("abc", "go"), "full joins: join(39, 0)", ROOM, t -> t.join(39, 0));
    }

    private static void type() {
        Check.sentence("Promise 8: OUTSIDE: it is not 0 .. 255; ROOM.");
        for (int c : Check.beyond(0, 255)) {
            Twins.refuse(FRESH, "type(" + c + ")", OUTSIDE, t -> t.type(c));
            Twins.refuse(USED, "in use type(" + c + ")", OUTSIDE, t -> t.type(c));
            Twins.refuse(FULL, "full type(" + c + ")", OUTSIDE, t -> t.type(c));
        }
        Stage longLine = Stage.used("lam", Stage.FULL_LINE);
        for (int c : new int[] {0, ' ', 'a', 255}) {
            Twins.refuse(FULL, "full type(" + c + ")", ROOM, t -> t.type(c));
            Twins.refuse(longLine, "full line type(" + c + ")", ROOM, t -> t.type(c));
        }
    }

    /** THE LINE is empty then whatever the answer: what is left is the stage with no line. */
    private static void read() {
        Check.sentence("Promise 9: OUTSIDE: the LANGUAGE; ROOM: there would be more than 24.");
        Stage tooMany = Stage.used("lam", Check.times('.', 25));
        Stage farTooMany = Stage.used("lam", Check.times('!', 80));
        Stage used = Stage.used("lam", "");
        Stage full = Stage.full(Stage.LONG_DRAFT, "");
        for (int language : Check.beyond(0, 2)) {
            Twins.refuse(FRESH, "read(" + language + ")", OUTSIDE, t -> t.read(language));
            Twins.refuse(USED, used, "in use read(" + language + ")", OUTSIDE, t -> t.read(language));
            Twins.refuse(FULL, full, "full read(" + language + ")", OUTSIDE, t -> t.read(language));
            Twins.refuse(tooMany, used, "25: read(" + language + ")", OUTSIDE, t -> t.read(language));
        }
        for (int language = 0; language <= 2; language++) {
            int l = language;
            Twins.refuse(tooMany, used, "25: read(" + l + ")", ROOM, t -> t.read(l));
            Twins.refuse(farTooMany, used, "80: read(" + l + ")", ROOM, t -> t.read(l));
        }
        Stage fullAndMore = Stage.full(Stage.LONG_DRAFT, Check.times('?', 23) + "\u0080");
        Twins.refuse(fullAndMore, full, "a join as 24 and 25: read(0)", ROOM, t -> t.read(0));
    }

    private static void token() {
        Check.sentence("Promise 10: UNKNOWN.");
        for (int i : Check.beyond(0, TOKENS - 1)) {
            for (int what = 0; what <= 5; what++) {
                int w = what;
                Twins.refuse(USED, "token(" + i + ", " + w + ")", UNKNOWN, t -> t.token(i, w));
            }
        }
        for (int what : Check.beyond(0, 4)) {
            Twins.refuse(USED, "token(0, " + what + ")", UNKNOWN, t -> t.token(0, what));
            Twins.refuse(USED, "token(8, " + what + ")", UNKNOWN, t -> t.token(TOKENS - 1, what));
        }
        Twins.refuse(FRESH, "no tokens: token(0, 0)", UNKNOWN, t -> t.token(0, 0));
        Twins.refuse(FULL, "all tokens: token(24, 0)", UNKNOWN, t -> t.token(24, 0));
    }

    private static void at() {
        Check.sentence("Promise 11: UNKNOWN: also, it has not so many.");
        int[] lengths = {4, 2, 1, 4, 4, 4, 6, 5, 2};
        for (int i = 0; i < TOKENS; i++) {
            int token = i;
            for (int k : Check.beyond(0, lengths[i] - 1)) {
                Twins.refuse(USED, "at(" + i + ", " + k + ")", UNKNOWN, t -> t.at(token, k));
            }
        }
        for (int i : Check.beyond(0, TOKENS - 1)) {
            Twins.refuse(USED, "at(" + i + ", 0)", UNKNOWN, t -> t.at(i, 0));
            Twins.refuse(USED, "at(" + i + ", -1)", UNKNOWN, t -> t.at(i, -1));
        }
        Twins.refuse(FRESH, "no tokens: at(0, 0)", UNKNOWN, t -> t.at(0, 0));
        Twins.refuse(FULL, "all tokens: at(24, 0)", UNKNOWN, t -> t.at(24, 0));
    }

    private static void amount() {
        Check.sentence("Promise 12: UNKNOWN; STATE: none begins there.");
        for (int i : new int[] {0, 1, 2, 4, 5, 6, 7}) {
            Twins.refuse(USED, "amount(" + i + ")", STATE, t -> t.amount(i));
            Twins.refuse(USED, "amountLength(" + i + ")", 0, t -> t.amountLength(i));
        }
        for (int i : Check.beyond(0, TOKENS - 1)) {
            Twins.refuse(USED, "amount(" + i + ")", UNKNOWN, t -> t.amount(i));
        }
        Twins.refuse(FRESH, "no tokens: amount(0)", UNKNOWN, t -> t.amount(0));
        Twins.refuse(FULL, "all tokens: amount(24)", UNKNOWN, t -> t.amount(24));
        Check.sentence("Promise 13: UNKNOWN; 0: none begins there.");
        for (int i : Check.beyond(0, TOKENS - 1)) {
            Twins.refuse(USED, "amountLength(" + i + ")", UNKNOWN, t -> t.amountLength(i));
        }
        Twins.refuse(FRESH, "no tokens: amountLength(0)", UNKNOWN, t -> t.amountLength(0));
        Twins.refuse(FULL, "all tokens: amountLength(24)", UNKNOWN, t -> t.amountLength(24));
    }

    private static void thing() {
        Check.sentence("Promise 14: ROOM.");
        Twins.refuse(FULL, "a 13th", ROOM, t -> t.thing());
        Twins.refuse(Stage.full("abc", "go"), "a 13th", ROOM, t -> t.thing());
    }

    private static void means() {
        Check.sentence("Promise 15: UNKNOWN: THING, WORD; OUTSIDE: the FLAG (NONE or 0 .. 7); ROOM.");
        Stage shortDraft = Stage.full("abc", "go");
        Twins.refuse(FRESH, "nothing: means(0, 0, NONE)", UNKNOWN, t -> t.means(0, 0, NONE));
        for (int thing : Check.beyond(0, THINGS - 1)) {
            Twins.refuse(USED, "means(" + thing + ", 0, 0)", UNKNOWN, t -> t.means(thing, 0, 0));
            Twins.refuse(USED, "means(" + thing + ", 0, 8)", UNKNOWN, t -> t.means(thing, 0, 8));
        }
        for (int w : Check.beyond(0, WORDS - 1)) {
            Twins.refuse(USED, "means(0, " + w + ", NONE)", UNKNOWN, t -> t.means(0, w, NONE));
            Twins.refuse(USED, "means(0, " + w + ", -2)", UNKNOWN, t -> t.means(0, w, -2));
        }
        for (int flag : Check.beyond(NONE, 7)) {
            Twins.refuse(USED, "means(0, 0, " + flag + ")", OUTSIDE, t -> t.means(0, 0, flag));
            Twins.refuse(FULL, "full: means(0, 0, " + flag + ")", OUTSIDE, t -> t.means(0, 0, flag));
        }
        for (int flag = NONE; flag <= 7; flag++) {
            int f = flag;
            Twins.refuse(FULL, "full: means(11, 39, " + f + ")", ROOM, t -> t.means(11, 39, f));
            Twins.refuse(shortDraft, "full: means(0, 13, " + f + ")", ROOM, t -> t.means(0, 13, f));
        }
        Twins.refuse(FULL, "full: means(12, 39, 0)", UNKNOWN, t -> t.means(12, 39, 0));
        Twins.refuse(FULL, "full: means(11, 40, 0)", UNKNOWN, t -> t.means(11, 40, 0));
        Twins.refuse(FULL, "full: means(12, 40, 8)", UNKNOWN, t -> t.means(12, 40, 8));
    }

    private static void flag() {
        Check.sentence("Promise 16: OUTSIDE.");
        int[] none = {Integer.MIN_VALUE, -1, 8, 32, 35, 256, Integer.MAX_VALUE};
        for (int f : none) {
            Twins.refuse(USED, "flag(" + f + ", true)", OUTSIDE, t -> t.flag(f, true));
            Twins.refuse(USED, "flag(" + f + ", false)", OUTSIDE, t -> t.flag(f, false));
            Twins.refuse(FULL, "full: flag(" + f + ", false)", OUTSIDE, t -> t.flag(f, false));
        }
    }

    private static void refer() {
        Check.sentence("Promise 17: UNKNOWN: the WORD; OUTSIDE: bits of no THINGS; STATE: it is no pronoun.");
        for (int w : Check.beyond(0, WORDS - 1)) {
            Twins.refuse(USED, "refer(" + w + ", 0)", UNKNOWN, t -> t.refer(w, 0));
            Twins.refuse(USED, "refer(" + w + ", 8)", UNKNOWN, t -> t.refer(w, 8));
        }
        for (int bits : new int[] {8, 15, 16, -1, -8, Integer.MIN_VALUE, Integer.MAX_VALUE}) {
            Twins.refuse(USED, "refer(it, " + bits + ")", OUTSIDE, t -> t.refer(IT, bits));
            Twins.refuse(USED, "refer(lamp, " + bits + ")", OUTSIDE, t -> t.refer(LAMP, bits));
        }
        for (int bits : new int[] {4096, 8191, -1, Integer.MIN_VALUE}) {
            Twins.refuse(FULL, "all things: refer(1, " + bits + ")", OUTSIDE, t -> t.refer(1, bits));
        }
        for (int bits : new int[] {0, 1, 7}) {
            Twins.refuse(USED, "refer(lamp, " + bits + ")", STATE, t -> t.refer(LAMP, bits));
        }
        Twins.refuse(FRESH, "no words: refer(0, 0)", UNKNOWN, t -> t.refer(0, 0));
    }

    private static void meaning() {
        for (int i : Check.beyond(0, TOKENS - 1)) {
            Check.sentence("Promise 18: UNKNOWN.");
            Twins.refuse(USED, "meant(" + i + ")", UNKNOWN, t -> t.meant(i));
            Check.sentence("Promise 19: UNKNOWN.");
            Twins.refuse(USED, "phrase(" + i + ")", UNKNOWN, t -> t.phrase(i));
            Check.sentence("Promise 20: UNKNOWN.");
            Twins.refuse(USED, "phraseLength(" + i + ")", UNKNOWN, t -> t.phraseLength(i));
        }
        Check.sentence("Promises 18 to 20: UNKNOWN, with no TOKENS and with all");
        Twins.refuse(FRESH, "no tokens: meant(0)", UNKNOWN, t -> t.meant(0));
        Twins.refuse(FRESH, "no tokens: phrase(0)", UNKNOWN, t -> t.phrase(0));
        Twins.refuse(FRESH, "no tokens: phraseLength(0)", UNKNOWN, t -> t.phraseLength(0));
        Twins.refuse(FULL, "all tokens: meant(24)", UNKNOWN, t -> t.meant(24));
        Twins.refuse(FULL, "all tokens: phrase(24)", UNKNOWN, t -> t.phrase(24));
        Twins.refuse(FULL, "all tokens: phraseLength(24)", UNKNOWN, t -> t.phraseLength(24));
    }

    private static void about() {
        Check.sentence("Promise 21: UNKNOWN.");
        for (int w : Check.beyond(0, WORDS - 1)) {
            for (int what = 0; what <= 6; what++) {
                int asked = what;
                Twins.refuse(USED, "about(" + w + ", " + what + ")", UNKNOWN, t -> t.about(w, asked));
            }
        }
        for (int what : Check.beyond(0, 5)) {
            Twins.refuse(USED, "about(0, " + what + ")", UNKNOWN, t -> t.about(0, what));
            Twins.refuse(USED, "about(5, " + what + ")", UNKNOWN, t -> t.about(WORDS - 1, what));
        }
        Twins.refuse(FRESH, "no words: about(0, 0)", UNKNOWN, t -> t.about(0, 0));
        Twins.refuse(FULL, "all words: about(40, 0)", UNKNOWN, t -> t.about(40, 0));
    }

    private static void equal() {
        Check.sentence("Promise 22: UNKNOWN.");
        for (int w : Check.beyond(0, WORDS - 1)) {
            Twins.refuse(USED, "equal(" + w + ", 0)", UNKNOWN, t -> t.equal(w, 0));
            Twins.refuse(USED, "equal(0, " + w + ")", UNKNOWN, t -> t.equal(0, w));
            Twins.refuse(USED, "equal(" + w + ", the same)", UNKNOWN, t -> t.equal(w, w));
        }
        Twins.refuse(FRESH, "no words: equal(0, 0)", UNKNOWN, t -> t.equal(0, 0));
        Twins.refuse(FULL, "all words: equal(39, 40)", UNKNOWN, t -> t.equal(39, 40));
        Twins.refuse(FULL, "all words: equal(40, 39)", UNKNOWN, t -> t.equal(40, 39));
    }

    private static void told() {
        Check.sentence("Promise 23: UNKNOWN.");
        for (int what : Check.beyond(0, 6)) {
            Twins.refuse(FRESH, "told(" + what + ")", UNKNOWN, t -> t.told(what));
            Twins.refuse(USED, "in use told(" + what + ")", UNKNOWN, t -> t.told(what));
            Twins.refuse(FULL, "full told(" + what + ")", UNKNOWN, t -> t.told(what));
        }
    }
}
