/** Promises 1 (a new object), 2 (fold), 3 (letter), and what it is for letters to be LIKE. */
public final class LettersTest {
    public static void main(String[] args) {
        newObjectIsEmpty();
        cutIsTheNearerOne();
        foldTellsWhatItWas();
        foldRefuses();
        foldCountsWhenWordsAreMade();
        letterTakesLettersAlone();
        draftHasRoomForTwenty();
        Check.end();
    }

    private static void newObjectIsEmpty() {
        WordTables t = new WordTables(6);
        for (int what = 0; what <= 6; what++) {
            Check.due("new: told(" + what + ")", t.told(what), 0);
        }
        Check.due("new: about", t.about(0, 0), Check.UNKNOWN);
        Check.due("new: token", t.token(0, 0), Check.UNKNOWN);
        Check.due("new: means", t.means(0, 0, -1), Check.UNKNOWN);
        Check.due("new: word", t.word(0, 1), Check.STATE);
        Check.due("new: read", t.read(0), 0);
        for (int f = 0; f < 8; f++) {
            Check.due("new: flag", t.flag(f, false), 0);
        }
        for (int c = 128; c <= 159; c++) {
            Check.due("new: fold of " + c, t.fold(c, 'q'), c);
        }
    }

    /** How many equal letters in front make two words LIKE, is what CUT is. */
    private static int cutOf(int told) {
        for (int same = 1; same <= 14; same++) {
            WordTables t = new WordTables(told);
            Check.word(t, Check.times('a', same) + "x", 0, 1);
            if (Check.word(t, Check.times('a', same) + "y", 0, 1) == 0) {
                return same;
            }
        }
        return 99;
    }

    private static void cutIsTheNearerOne() {
        int[] told = {Integer.MIN_VALUE, -1, 0, 1, 2, 6, 11, 12, 13, 100, Integer.MAX_VALUE};
        int[] cut = {1, 1, 1, 1, 2, 6, 11, 12, 12, 12, 12};
        for (int k = 0; k < told.length; k++) {
            Check.due("cut " + told[k], cutOf(told[k]), cut[k]);
        }
    }

    private static void foldTellsWhatItWas() {
        WordTables t = new WordTables(6);
        Check.due("fold(128, a)", t.fold(128, 'a'), 128);
        Check.due("fold(128, z)", t.fold(128, 'z'), 'a');
        Check.due("fold(128, a) again", t.fold(128, 'a'), 'z');
        Check.due("fold(159, z)", t.fold(159, 'z'), 159);
        Check.due("fold(159, z) again", t.fold(159, 'z'), 'z');
        Check.due("fold(129, m)", t.fold(129, 'm'), 129);
    }

    private static void foldRefuses() {
        WordTables t = new WordTables(6);
        int[] from = {127, 160, 'a', 'A', -1, Integer.MIN_VALUE, Integer.MAX_VALUE, 0, 128 + 256};
        for (int f : from) {
            Check.due("fold(" + f + ", a)", t.fold(f, 'a'), Check.OUTSIDE);
        }
        int[] to = {96, 123, 'A', 'Z', 128, 140, -1, Integer.MIN_VALUE, Integer.MAX_VALUE};
        for (int f : to) {
            Check.due("fold(128, " + f + ")", t.fold(128, f), Check.OUTSIDE);
        }
        Check.due("fold stays where it was refused", t.fold(128, 'a'), 128);
        Check.word(t, "go", 0, 1);
        Check.due("fold with words", t.fold(128, 'b'), Check.STATE);
        Check.due("fold with words, outside first", t.fold(127, 'b'), Check.OUTSIDE);
        Check.due("fold with words, outside first", t.fold(128, 'B'), Check.OUTSIDE);
    }

    private static void foldCountsWhenWordsAreMade() {
        WordTables t = new WordTables(6);
        Check.draft(t, "\u0084b");
        Check.due("fold with a draft", t.fold(0x84, 'a'), 0x84);
        Check.due("word", t.word(0, 1), 0);
        Check.due("the same, folded", Check.word(t, "AB", 0, 2), 0);
        Check.due("another fold's letter is itself", Check.word(t, "\u0085b", 0, 2), 1);
        Check.due("it is like itself", Check.word(t, "\u0085B", 0, 2), 1);
    }

    private static void letterTakesLettersAlone() {
        for (int c = -3; c <= 300; c++) {
            WordTables t = new WordTables(6);
            boolean is = c >= 65 && c <= 90 || c >= 97 && c <= 122 || c >= 128 && c <= 159;
            Check.due("letter(" + c + ")", t.letter(c), is ? 1 : Check.OUTSIDE);
            Check.due("told(0) behind letter(" + c + ")", t.told(0), is ? 1 : 0);
        }
        WordTables t = new WordTables(6);
        Check.due("letter(min)", t.letter(Integer.MIN_VALUE), Check.OUTSIDE);
        Check.due("letter(max)", t.letter(Integer.MAX_VALUE), Check.OUTSIDE);
    }

    private static void draftHasRoomForTwenty() {
        WordTables t = new WordTables(12);
        for (int k = 1; k <= 20; k++) {
            Check.due("letter " + k, t.letter('a' + k), k);
        }
        Check.due("letter 21", t.letter('a'), Check.ROOM);
        Check.due("no letter, outside first", t.letter('1'), Check.OUTSIDE);
        Check.due("draft", t.told(0), 20);
        Check.due("word of 20", t.word(0, 1), 0);
        Check.due("its letters", t.about(0, 4), 20);
        Check.due("letter then", t.letter('a'), 1);
    }
}
