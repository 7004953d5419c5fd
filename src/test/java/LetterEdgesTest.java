/** The boundaries that the document names in part 1, LETTERS, and in promises 1 to 3; each method holds one. */
public final class LetterEdgesTest {
    private static final int[] CUTS = {1, 2, 3, 4, 5, 6, 7, 8, 9, 10, 11, 12};

    public static void main(String[] args) {
        newObjectHasNone();
        cutBelowItsRange();
        cutAboveItsRange();
        cutWithinItsRange();
        greatLetters();
        smallLetters();
        lettersWithFolds();
        greatLettersAreFolded();
        foldedAtFirstItself();
        foldOfTheFirstAndTheLast();
        foldWhatItWas();
        foldWithDraftAndLine();
        foldOfOneLeavesTheOthers();
        likeAtTheCut();
        likeUnlessOneIsShorter();
        draftOfTwenty();
        draftOfOne();
        Check.end();
    }

    private static void newObjectHasNone() {
        Check.sentence("No WORDS, THINGS, TOKENS; THE DRAFT and THE LINE are empty.");
        for (int cut = 0; cut <= 13; cut++) {
            WordTables t = new WordTables(cut);
            for (int what = 0; what <= 6; what++) {
                Check.due("new: told(" + what + ")", t.told(what), 0);
            }
            Check.due("new: word of no draft", t.word(0, 1), Check.STATE);
            Check.due("new: read of no line", t.read(0), 0);
            Check.due("new: the first letter", t.letter('a'), 1);
            Check.due("new: the first byte", t.type('a'), 1);
            Check.due("new: the first thing", t.thing(), 0);
            Check.due("new: the first word", t.word(0, 1), 0);
        }
    }

    /** Whether a word of so many letters a is LIKE one of one letter more, and not LIKE one of one less. */
    private static void cutIs(int told, int cut) {
        WordTables t = new WordTables(told);
        Check.word(t, Check.times('a', cut), 0, 1);
        Check.word(t, Check.times('a', cut + 1), 1, 1);
        Check.due("cut " + told + ": letter " + (cut + 1) + " does not count", t.equal(0, 1), 1);
        if (cut > 1) {
            Check.word(t, Check.times('a', cut - 1), 2, 1);
            Check.due("cut " + told + ": letter " + cut + " counts", t.equal(0, 2), 0);
        }
        WordTables u = new WordTables(told);
        Check.word(u, Check.times('a', cut - 1) + "b", 0, 1);
        Check.word(u, Check.times('a', cut - 1) + "c", 1, 1);
        Check.due("cut " + told + ": letter " + cut + " is another", u.equal(0, 1), 0);
    }

    private static void cutBelowItsRange() {
        Check.sentence("CUT is so much (1 .. 12, else the nearer one): too small");
        for (int told : new int[] {0, -1, -12, -100, Integer.MIN_VALUE, Integer.MIN_VALUE + 1}) {
            cutIs(told, 1);
        }
    }

    private static void cutAboveItsRange() {
        Check.sentence("CUT is so much (1 .. 12, else the nearer one): too large");
        for (int told : new int[] {13, 14, 20, 256, Integer.MAX_VALUE - 1, Integer.MAX_VALUE}) {
            cutIs(told, 12);
        }
    }

    private static void cutWithinItsRange() {
        Check.sentence("CUT is so much (1 .. 12, else the nearer one)");
        for (int cut : CUTS) {
            cutIs(cut, cut);
        }
    }

    private static void lettersFrom(int first, int last) {
        WordTables t = new WordTables(1);
        Check.due("letter(" + first + ")", t.letter(first), 1);
        Check.due("letter(" + last + ")", t.letter(last), 2);
        Check.due("letter(" + (first - 1) + ")", t.letter(first - 1), Check.OUTSIDE);
        Check.due("letter(" + (last + 1) + ")", t.letter(last + 1), Check.OUTSIDE);
        Check.due("how many there are", t.told(0), 2);
        for (int c = first; c <= last; c++) {
            WordTables u = new WordTables(1);
            Check.due("letter(" + c + ")", u.letter(c), 1);
            Check.due("byte " + c + " in a line", Check.read(u, "1" + (char) c + "1", 0), 3);
            Check.due("byte " + c + " is a letter there", u.token(1, 0), 1);
        }
        for (int c : new int[] {first - 1, last + 1}) {
            WordTables u = new WordTables(1);
            Check.read(u, "1" + (char) c + "1", 0);
            Check.due("byte " + c + " is no letter there", u.token(1, 0), 6);
        }
    }

    private static void greatLetters() {
        Check.sentence("LETTERS are the bytes 65 .. 90 (A .. Z)");
        lettersFrom(65, 90);
    }

    private static void smallLetters() {
        Check.sentence("LETTERS are the bytes .. 97 .. 122 (a .. z)");
        lettersFrom(97, 122);
    }

    private static void lettersWithFolds() {
        Check.sentence("LETTERS are the bytes .. 128 .. 159");
        lettersFrom(128, 159);
    }

    /** Whether the word of one letter is LIKE that of another one. */
    private static int alike(WordTables t, int one, int other) {
        t.letter(one);
        int a = t.word(0, 1);
        t.letter(other);
        int b = t.word(1, 1);
        return t.equal(a, b);
    }

    private static void greatLettersAreFolded() {
        Check.sentence("FOLDED a great letter is the small one, .. a small one itself");
        for (int c = 'A'; c <= 'Z'; c++) {
            Check.due("like " + (char) c, alike(new WordTables(12), c, c + 32), 1);
            Check.due("like itself " + (char) c, alike(new WordTables(12), c, c), 1);
            Check.due("not like the next " + (char) c, alike(new WordTables(12), c, c == 'Z' ? 'a' : c + 33), 0);
        }
    }

    private static void foldedAtFirstItself() {
        Check.sentence("a letter 128 .. 159 is what its FOLD tells (a small letter; at first itself)");
        for (int c = 128; c <= 159; c++) {
            Check.due("like itself " + c, alike(new WordTables(12), c, c), 1);
            Check.due("not like a next one " + c, alike(new WordTables(12), c, c == 159 ? 128 : c + 1), 0);
            Check.due("not like a small one " + c, alike(new WordTables(12), c, 'a' + (c - 128) % 26), 0);
            Check.due("not like a great one " + c, alike(new WordTables(12), c, 'A' + (c - 128) % 26), 0);
            Check.due("what it was " + c, new WordTables(12).fold(c, 'a'), c);
        }
    }

    private static void foldOfTheFirstAndTheLast() {
        Check.sentence("The FOLD of a letter 128 .. 159 becomes a small letter: what it was.");
        for (int from : new int[] {128, 129, 158, 159}) {
            for (int to : new int[] {'a', 'b', 'y', 'z'}) {
                WordTables t = new WordTables(12);
                Check.due("fold(" + from + ", " + to + ")", t.fold(from, to), from);
                Check.due("like the small one", alike(t, from, to), 1);
                WordTables u = new WordTables(12);
                u.fold(from, to);
                Check.due("like the great one", alike(u, to - 32, from), 1);
            }
        }
        WordTables t = new WordTables(12);
        int[] none = {127, 160};
        for (int from : none) {
            Check.due("fold(" + from + ", a)", t.fold(from, 'a'), Check.OUTSIDE);
        }
        for (int to : new int[] {96, 123, 65, 90, 127, 128, 159}) {
            Check.due("fold(128, " + to + ")", t.fold(128, to), Check.OUTSIDE);
        }
    }

    private static void foldWhatItWas() {
        Check.sentence("The FOLD of a letter 128 .. 159 becomes a small letter: what it was. (again)");
        WordTables t = new WordTables(12);
        int before = 159;
        for (int to = 'a'; to <= 'z'; to++) {
            Check.due("fold(159, " + to + ")", t.fold(159, to), before);
            Check.due("the same again", t.fold(159, to), to);
            before = to;
        }
    }

    private static void foldWithDraftAndLine() {
        Check.sentence("STATE: there are WORDS or JOINS. (a draft, a line, tokens and things are none)");
        WordTables t = new WordTables(12);
        Check.draft(t, "\u0080");
        Check.read(t, "\u0080 b", 0);
        Check.line(t, "\u0080");
        t.thing();
        t.flag(0, true);
        Check.due("fold", t.fold(128, 'x'), 128);
        Check.due("the draft", t.word(0, 1), 0);
        Check.due("with a word", t.fold(128, 'y'), Check.STATE);
        Check.due("the line", t.read(0), 1);
        Check.due("found by its letter", t.token(0, 3), 0);
        Check.due("found by the small one", Check.read(t, "x y", 0), 2);
        Check.due("found by the small one", t.token(0, 3), 0);
        Check.due("the refused one is not", t.token(1, 0), 1);
    }

    private static void foldOfOneLeavesTheOthers() {
        Check.sentence("The FOLD of a letter 128 .. 159 (and of that letter alone)");
        WordTables t = new WordTables(12);
        t.fold(140, 'm');
        for (int c = 128; c <= 159; c++) {
            Check.due("fold of " + c, t.fold(c, 'a'), c == 140 ? 'm' : c);
        }
    }

    private static void likeAtTheCut() {
        Check.sentence("LIKE, if, folded, the first CUT letters of both are the same");
        for (int cut : CUTS) {
            for (int place = 0; place < 20; place++) {
                WordTables t = new WordTables(cut);
                Check.word(t, Check.times('a', 20), 0, 1);
                Check.word(t, Check.times('A', place) + "b" + Check.times('a', 19 - place), 1, 1);
                String name = "cut " + cut + ", another letter at " + place;
                Check.due(name, t.equal(0, 1), place < cut ? 0 : 1);
                Check.due(name + ", the other way", t.equal(1, 0), place < cut ? 0 : 1);
            }
        }
    }

    private static void likeUnlessOneIsShorter() {
        Check.sentence("(shorter ones: if they are the same)");
        for (int cut : CUTS) {
            for (int one = 1; one <= 20; one++) {
                for (int other = 1; other <= 20; other++) {
                    WordTables t = new WordTables(cut);
                    Check.word(t, Check.times('a', one), 0, 1);
                    Check.word(t, Check.times('A', other), 1, 1);
                    boolean like = one == other || one >= cut && other >= cut;
                    Check.due("cut " + cut + ", " + one + " and " + other + " letters", t.equal(0, 1), like ? 1 : 0);
                }
            }
        }
    }

    private static void draftOfTwenty() {
        Check.sentence("THE DRAFT is a row of at most 20 letters.");
        for (int c : new int[] {'A', 'Z', 'a', 'z', 128, 159}) {
            WordTables t = new WordTables(12);
            for (int k = 1; k <= 20; k++) {
                Check.due("letter " + k, t.letter(c), k);
                Check.due("told", t.told(0), k);
            }
            Check.due("letter 21", t.letter(c), Check.ROOM);
            Check.due("letter 21 again", t.letter(c), Check.ROOM);
            Check.due("told", t.told(0), 20);
            Check.due("a word of them", t.word(2, 63), 0);
            Check.due("its letters", t.about(0, 4), 20);
            Check.due("told then", t.told(0), 0);
            Check.due("the next letter", t.letter(c), 1);
        }
    }

    private static void draftOfOne() {
        Check.sentence("A letter comes behind THE DRAFT: how many it has. (from the empty one on)");
        WordTables t = new WordTables(12);
        Check.due("one letter", t.letter('a'), 1);
        Check.due("a word of it", t.word(0, 0), 0);
        Check.due("its letters", t.about(0, 4), 1);
        Check.due("no word of none", t.word(0, 0), Check.STATE);
        Check.due("letters in their order", Check.word(t, "ab", 0, 0), 1);
        Check.due("letters in another order", Check.word(t, "ba", 0, 0), 2);
        Check.due("those again", Check.word(t, "ba", 0, 0), 2);
    }
}
