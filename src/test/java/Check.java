/** Counts wrong answers, and the few ways in which every test talks to the tables. */
final class Check {
    static final int VERB = 1, NOUN = 2, ADJECTIVE = 4, PREPOSITION = 8, PRONOUN = 16, NUMBER = 32;
    static final int NONE = -1, UNKNOWN = -2, OUTSIDE = -3, STATE = -4, ROOM = -5;

    private static int right = 0;
    private static int wrong = 0;
    private static String sentence = "";

    private Check() {
    }

    /** The words of the document that the answers from here on hold; a wrong answer is told with them. */
    static void sentence(String words) {
        sentence = "[" + words + "] ";
    }

    static void due(String call, int got, int want) {
        if (got == want) {
            right++;
        } else {
            wrong++;
            System.out.println(sentence + call + " answered " + got + ", due is " + want);
        }
    }

    /** Prints the verdict and ends the test with exit code 1 if an answer was wrong. */
    static void end() {
        System.out.println(right + " answers as due, " + wrong + " not");
        if (wrong != 0 || right == 0) {
            System.exit(1);
        }
    }

    /** Each character of the text is a letter with its code. */
    static void draft(WordTables t, String text) {
        for (int k = 0; k < text.length(); k++) {
            t.letter(text.charAt(k));
        }
    }

    static int word(WordTables t, String text, int language, int kinds) {
        draft(t, text);
        return t.word(language, kinds);
    }

    static int number(WordTables t, String text, int value) {
        int word = word(t, text, 0, NUMBER);
        t.value(word, value);
        return word;
    }

    static int join(WordTables t, String text, int first, int second) {
        draft(t, text);
        return t.join(first, second);
    }

    static void line(WordTables t, String text) {
        for (int k = 0; k < text.length(); k++) {
            t.type(text.charAt(k));
        }
    }

    static int read(WordTables t, String text, int language) {
        line(t, text);
        return t.read(language);
    }

    /** A token's sort, place, length and number at once. */
    static void token(WordTables t, String name, int i, int[] want) {
        for (int what = 0; what < want.length; what++) {
            due(name + ": token(" + i + ", " + what + ")", t.token(i, what), want[what]);
        }
    }

    /** All tokens of a line: for each its sort, place, length and number. */
    static void tokens(WordTables t, String text, int language, int[]... want) {
        due("read of <" + text + ">", read(t, text, language), want.length);
        due("told(4) behind <" + text + ">", t.told(4), want.length);
        for (int i = 0; i < want.length; i++) {
            token(t, "<" + text + ">", i, want[i]);
        }
    }

    static int[] row(int... numbers) {
        return numbers;
    }

    /** The numbers beyond both ends of a range: the next ones, and the farthest that there are. */
    static int[] beyond(int first, int last) {
        return new int[] {first - 1, last + 1, Integer.MIN_VALUE, Integer.MAX_VALUE};
    }

    static String times(char c, int n) {
        return String.valueOf(c).repeat(n);
    }
}
