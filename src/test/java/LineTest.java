/** Promises 8 (type), 9 (read), 10 (token), 11 (at). */
public final class LineTest {
    private static final int[][] NO_TOKENS = {};

    public static void main(String[] args) {
        lineHasRoomForEighty();
        typeTakesBytesAlone();
        readEmptiesTheLine();
        wordsAreFoundByLanguage();
        joinsStandBehindWords();
        numbers();
        times();
        halvesOfTheDay();
        nothingStandsBehindTheEnd();
        quotedTexts();
        marksAndOthers();
        noTwentyFifthToken();
        tokenTellsKinds();
        tokenRefuses();
        atTellsBytesAsTheyStood();
        Check.end();
    }

    private static void lineHasRoomForEighty() {
        WordTables t = new WordTables(6);
        for (int k = 1; k <= 80; k++) {
            Check.due("type " + k, t.type('a'), k);
        }
        Check.due("type 81", t.type('a'), Check.ROOM);
        Check.due("outside before room", t.type(256), Check.OUTSIDE);
        Check.due("bytes", t.told(3), 80);
        Check.due("read", t.read(0), 1);
        Check.due("length", t.token(0, 2), 80);
        Check.due("type then", t.type('a'), 1);
        WordTables u = new WordTables(6);
        Check.tokens(u, Check.times(' ', 79) + "!", 0, Check.row(5, 79, 1, '!'));
    }

    private static void typeTakesBytesAlone() {
        WordTables t = new WordTables(6);
        int[] wrong = {-1, 256, Integer.MIN_VALUE, Integer.MAX_VALUE};
        for (int c : wrong) {
            Check.due("type(" + c + ")", t.type(c), Check.OUTSIDE);
        }
        Check.due("nothing came", t.told(3), 0);
        Check.due("type(0)", t.type(0), 1);
        Check.due("type(255)", t.type(255), 2);
        Check.due("read", t.read(0), 1);
        Check.due("at", t.at(0, 0), 0);
        Check.due("at", t.at(0, 1), 255);
    }

    private static void readEmptiesTheLine() {
        WordTables t = new WordTables(6);
        Check.due("read", Check.read(t, "a b", 0), 2);
        Check.due("line", t.told(3), 0);
        int[] wrong = {-1, 3, Integer.MIN_VALUE, Integer.MAX_VALUE};
        for (int language : wrong) {
            Check.due("read in " + language, Check.read(t, "c", language), Check.OUTSIDE);
            Check.due("line", t.told(3), 0);
            Check.due("tokens stay", t.told(4), 2);
            Check.due("bytes stay", t.at(1, 0), 'b');
        }
        Check.tokens(t, "   ", 2, NO_TOKENS);
        Check.due("no token", t.token(0, 0), Check.UNKNOWN);
        Check.due("read", Check.read(t, "x", 1), 1);
        Check.tokens(t, "", 0, NO_TOKENS);
    }

    private static void wordsAreFoundByLanguage() {
        WordTables t = new WordTables(4);
        t.fold(0x80, 'o');
        int door = Check.word(t, "door", 0, Check.NOUN);
        int tur = Check.word(t, "tur", 1, Check.NOUN);
        int doors = Check.word(t, "doors", 1, Check.NOUN);
        Check.tokens(t, "DoorWay", 0, Check.row(0, 0, 7, door));
        Check.tokens(t, "door", 1, Check.row(0, 0, 4, doors));
        Check.tokens(t, "d\u0080\u0080r", 2, Check.row(0, 0, 4, door));
        Check.tokens(t, "tur", 0, Check.row(1, 0, 3, Check.NONE));
        Check.tokens(t, "tur", 2, Check.row(1, 0, 3, Check.NONE));
        Check.tokens(t, " tur  TUR", 1, Check.row(0, 1, 3, tur), Check.row(0, 6, 3, tur));
        Check.tokens(t, "ture doo", 1, Check.row(1, 0, 4, Check.NONE), Check.row(1, 5, 3, Check.NONE));
        Check.tokens(t, "door5door", 0, Check.row(0, 0, 4, door), Check.row(2, 4, 1, 5), Check.row(0, 5, 4, door));
        Check.tokens(t, "@door[`{", 0, Check.row(6, 0, 1, Check.NONE), Check.row(0, 1, 4, door),
                Check.row(6, 5, 3, Check.NONE));
        Check.tokens(t, "\u007fd\u00a0", 0, Check.row(6, 0, 1, Check.NONE), Check.row(1, 1, 1, Check.NONE),
                Check.row(6, 2, 1, Check.NONE));
    }

    private static void joinsStandBehindWords() {
        WordTables t = new WordTables(3);
        int go = Check.word(t, "go", 0, Check.VERB);
        int to = Check.word(t, "to", 1, Check.PREPOSITION);
        Check.join(t, "goto", go, to);
        Check.join(t, "gotham", to, go);
        Check.join(t, "to", go, go);
        Check.tokens(t, " GOTx go", 2, Check.row(0, 1, 4, go), Check.row(0, 1, 4, to), Check.row(0, 6, 2, go));
        Check.tokens(t, "to", 1, Check.row(0, 0, 2, to));
        Check.tokens(t, "to", 2, Check.row(0, 0, 2, go), Check.row(0, 0, 2, go));
        int gotten = Check.word(t, "gotten", 0, Check.VERB);
        Check.tokens(t, "goto", 2, Check.row(0, 0, 4, gotten));
    }

    private static void numbers() {
        WordTables t = new WordTables(6);
        Check.tokens(t, "0 30000 30001", 0, Check.row(2, 0, 1, 0), Check.row(2, 2, 5, 30000),
                Check.row(6, 8, 5, Check.NONE));
        Check.tokens(t, "000000000030000", 0, Check.row(2, 0, 15, 30000));
        Check.tokens(t, "4294967301", 0, Check.row(6, 0, 10, Check.NONE));
        Check.tokens(t, Check.times('9', 80), 0, Check.row(6, 0, 80, Check.NONE));
        Check.tokens(t, Check.times('0', 79) + "7", 0, Check.row(2, 0, 80, 7));
        Check.tokens(t, "12a/:", 0, Check.row(2, 0, 2, 12), Check.row(1, 2, 1, Check.NONE),
                Check.row(6, 3, 2, Check.NONE));
    }

    private static void times() {
        WordTables t = new WordTables(6);
        Check.tokens(t, "0:00 00:00 23:59", 0, Check.row(3, 0, 4, 0), Check.row(3, 5, 5, 0),
                Check.row(3, 11, 5, 1439));
        Check.tokens(t, "9:05:30", 0, Check.row(3, 0, 4, 545), Check.row(6, 4, 1, Check.NONE),
                Check.row(2, 5, 2, 30));
        Check.tokens(t, "24:00", 0, Check.row(2, 0, 2, 24), Check.row(6, 2, 1, Check.NONE),
                Check.row(2, 3, 2, 0));
        Check.tokens(t, "9:60", 0, Check.row(2, 0, 1, 9), Check.row(6, 1, 1, Check.NONE),
                Check.row(2, 2, 2, 60));
        Check.tokens(t, "9:5", 0, Check.row(2, 0, 1, 9), Check.row(6, 1, 1, Check.NONE), Check.row(2, 2, 1, 5));
        Check.tokens(t, "9:-5", 0, Check.row(2, 0, 1, 9), Check.row(6, 1, 2, Check.NONE), Check.row(2, 3, 1, 5));
        Check.tokens(t, "9:", 0, Check.row(2, 0, 1, 9), Check.row(6, 1, 1, Check.NONE));
        Check.tokens(t, "9:055", 0, Check.row(2, 0, 1, 9), Check.row(6, 1, 1, Check.NONE),
                Check.row(2, 2, 3, 55));
        Check.tokens(t, "009:05", 0, Check.row(2, 0, 3, 9), Check.row(6, 3, 1, Check.NONE),
                Check.row(2, 4, 2, 5));
        Check.tokens(t, "99:12:30", 0, Check.row(2, 0, 2, 99), Check.row(6, 2, 1, Check.NONE),
                Check.row(3, 3, 5, 750));
        Check.tokens(t, "9 :05", 0, Check.row(2, 0, 1, 9), Check.row(6, 2, 1, Check.NONE), Check.row(2, 3, 2, 5));
        Check.tokens(t, "9:0a", 0, Check.row(2, 0, 1, 9), Check.row(6, 1, 1, Check.NONE), Check.row(2, 2, 1, 0),
                Check.row(1, 3, 1, Check.NONE));
    }

    private static void halvesOfTheDay() {
        WordTables t = new WordTables(6);
        t.fold(0x90, 'p');
        t.fold(0x91, 'm');
        t.fold(0x92, 'a');
        Check.tokens(t, "1:00am", 0, Check.row(3, 0, 6, 60));
        Check.tokens(t, "1:00PM.", 0, Check.row(3, 0, 6, 780), Check.row(5, 6, 1, '.'));
        Check.tokens(t, "12:01Am5", 0, Check.row(3, 0, 7, 1), Check.row(2, 7, 1, 5));
        Check.tokens(t, "12:01pM", 0, Check.row(3, 0, 7, 721));
        Check.tokens(t, "11:59\u0090\u0091", 0, Check.row(3, 0, 7, 1439));
        Check.tokens(t, "11:59\u0092m", 0, Check.row(3, 0, 7, 719));
        Check.tokens(t, "0:30am", 0, Check.row(3, 0, 4, 30), Check.row(1, 4, 2, Check.NONE));
        Check.tokens(t, "13:30pm", 0, Check.row(3, 0, 5, 810), Check.row(1, 5, 2, Check.NONE));
        Check.tokens(t, "1:30pmx", 0, Check.row(3, 0, 4, 90), Check.row(1, 4, 3, Check.NONE));
        Check.tokens(t, "1:30am\u0093", 0, Check.row(3, 0, 4, 90), Check.row(1, 4, 3, Check.NONE));
        Check.tokens(t, "1:30 pm", 0, Check.row(3, 0, 4, 90), Check.row(1, 5, 2, Check.NONE));
        Check.tokens(t, "1:30p", 0, Check.row(3, 0, 4, 90), Check.row(1, 4, 1, Check.NONE));
        Check.tokens(t, "1:30pp", 0, Check.row(3, 0, 4, 90), Check.row(1, 4, 2, Check.NONE));
        Check.tokens(t, "1:30mm", 0, Check.row(3, 0, 4, 90), Check.row(1, 4, 2, Check.NONE));
        Check.tokens(t, "1pm", 0, Check.row(2, 0, 1, 1), Check.row(1, 1, 2, Check.NONE));
    }

    /** A longer line that was read before must not show behind the end of a shorter one. */
    private static void nothingStandsBehindTheEnd() {
        WordTables t = new WordTables(6);
        int lamp = Check.word(t, "lamp", 0, Check.NOUN);
        Check.tokens(t, "1:30pm", 0, Check.row(3, 0, 6, 810));
        Check.tokens(t, "1:30", 0, Check.row(3, 0, 4, 90));
        Check.tokens(t, "1:30p", 0, Check.row(3, 0, 4, 90), Check.row(1, 4, 1, Check.NONE));
        Check.tokens(t, "1:30pmx", 0, Check.row(3, 0, 4, 90), Check.row(1, 4, 3, Check.NONE));
        Check.tokens(t, "1:30pm", 0, Check.row(3, 0, 6, 810));
        Check.tokens(t, "1:305", 0, Check.row(2, 0, 1, 1), Check.row(6, 1, 1, Check.NONE), Check.row(2, 2, 3, 305));
        Check.tokens(t, "1:30", 0, Check.row(3, 0, 4, 90));
        Check.tokens(t, "1:3", 0, Check.row(2, 0, 1, 1), Check.row(6, 1, 1, Check.NONE), Check.row(2, 2, 1, 3));
        Check.tokens(t, "1", 0, Check.row(2, 0, 1, 1));
        Check.tokens(t, "lamps", 0, Check.row(1, 0, 5, Check.NONE));
        Check.tokens(t, "lamp", 0, Check.row(0, 0, 4, lamp));
        Check.tokens(t, "\"a\"", 0, Check.row(4, 0, 3, 1));
        Check.tokens(t, "\"a", 0, Check.row(6, 0, 2, Check.NONE));
        Check.tokens(t, "--", 0, Check.row(6, 0, 2, Check.NONE));
        Check.tokens(t, "-", 0, Check.row(6, 0, 1, Check.NONE));
        Check.due("no second byte", t.at(0, 1), Check.UNKNOWN);
    }

    private static void quotedTexts() {
        WordTables t = new WordTables(6);
        Check.tokens(t, "\"hi\"\"\"x", 0, Check.row(4, 0, 4, 2), Check.row(4, 4, 2, 0),
                Check.row(1, 6, 1, Check.NONE));
        Check.tokens(t, "\"a 1.\" \"b c", 0, Check.row(4, 0, 6, 4), Check.row(6, 7, 4, Check.NONE));
        Check.tokens(t, "a\"", 0, Check.row(1, 0, 1, Check.NONE), Check.row(6, 1, 1, Check.NONE));
        Check.tokens(t, "\"" + Check.times(' ', 78) + "\"", 0, Check.row(4, 0, 80, 78));
    }

    private static void marksAndOthers() {
        WordTables t = new WordTables(6);
        Check.tokens(t, "..,;!?", 0, Check.row(5, 0, 1, '.'), Check.row(5, 1, 1, '.'), Check.row(5, 2, 1, ','),
                Check.row(5, 3, 1, ';'), Check.row(5, 4, 1, '!'), Check.row(5, 5, 1, '?'));
        Check.tokens(t, "-+ :'\u0000\u00ff(", 0, Check.row(6, 0, 2, Check.NONE), Check.row(6, 3, 5, Check.NONE));
        Check.tokens(t, "#1#a#.#\"#\"", 0, Check.row(6, 0, 1, Check.NONE), Check.row(2, 1, 1, 1),
                Check.row(6, 2, 1, Check.NONE), Check.row(1, 3, 1, Check.NONE), Check.row(6, 4, 1, Check.NONE),
                Check.row(5, 5, 1, '.'), Check.row(6, 6, 1, Check.NONE), Check.row(4, 7, 3, 1));
    }

    private static void noTwentyFifthToken() {
        WordTables t = new WordTables(6);
        int go = Check.word(t, "go", 0, Check.VERB);
        Check.join(t, "both", go, go);
        Check.due("24", Check.read(t, Check.times('.', 24), 0), 24);
        Check.due("the last", t.token(23, 1), 23);
        Check.due("behind it", t.token(24, 1), Check.UNKNOWN);
        Check.due("25", Check.read(t, Check.times('!', 25), 0), Check.ROOM);
        Check.due("line", t.told(3), 0);
        Check.due("tokens stay", t.told(4), 24);
        Check.due("as they were", t.token(0, 3), '.');
        Check.due("and their bytes", t.at(23, 0), '.');
        Check.due("80", Check.read(t, Check.times('!', 80), 0), Check.ROOM);
        Check.due("join as 23 and 24", Check.read(t, Check.times('?', 22) + "both", 0), 24);
        Check.due("join as 24 and 25", Check.read(t, Check.times('!', 23) + "both", 0), Check.ROOM);
        Check.due("tokens stay", t.token(0, 3), '?');
        Check.due("blanks are none", Check.read(t, Check.times('?', 24) + "   ", 0), 24);
        Check.due("outside before room", Check.read(t, Check.times('?', 25), 3), Check.OUTSIDE);
        Check.due("less again", Check.read(t, "go", 0), 1);
        Check.due("its number", t.token(0, 3), go);
    }

    private static void tokenTellsKinds() {
        WordTables t = new WordTables(6);
        Check.word(t, "go", 0, Check.VERB);
        int lamp = Check.word(t, "lamp", 0, Check.NOUN);
        Check.due("read", Check.read(t, "lamp x 1 1:00 \"\" . -", 0), 7);
        int[] sorts = {0, 1, 2, 3, 4, 5, 6};
        int[] kinds = {2, 0, 0, 0, 0, 0, 0};
        for (int i = 0; i < 7; i++) {
            Check.due("sort of " + i, t.token(i, 0), sorts[i]);
            Check.due("kinds of " + i, t.token(i, 4), kinds[i]);
        }
        Check.word(t, "lamp", 0, Check.ADJECTIVE);
        Check.word(t, "x", 0, Check.NOUN);
        Check.due("kinds that came later", t.token(0, 4), 6);
        Check.due("number stays", t.token(0, 3), lamp);
        Check.due("sort stays", t.token(1, 0), 1);
        Check.due("kinds of none", t.token(1, 4), 0);
    }

    private static void tokenRefuses() {
        WordTables t = new WordTables(6);
        Check.read(t, "a b", 0);
        int[] wrong = {-1, 2, 24, Integer.MIN_VALUE, Integer.MAX_VALUE};
        for (int i : wrong) {
            for (int what = 0; what <= 4; what++) {
                Check.due("token(" + i + ", " + what + ")", t.token(i, what), Check.UNKNOWN);
            }
            Check.due("at(" + i + ", 0)", t.at(i, 0), Check.UNKNOWN);
        }
        int[] whats = {-1, 5, Integer.MIN_VALUE, Integer.MAX_VALUE};
        for (int what : whats) {
            Check.due("token(0, " + what + ")", t.token(0, what), Check.UNKNOWN);
        }
    }

    private static void atTellsBytesAsTheyStood() {
        WordTables t = new WordTables(1);
        int go = Check.word(t, "go", 0, Check.VERB);
        Check.join(t, "x", go, go);
        Check.due("read", Check.read(t, " Go \"a B\" xY", 0), 4);
        String[] rows = {"Go", "\"a B\"", "xY", "xY"};
        for (int i = 0; i < rows.length; i++) {
            for (int k = 0; k < rows[i].length(); k++) {
                Check.due("at(" + i + ", " + k + ")", t.at(i, k), rows[i].charAt(k));
            }
            Check.due("behind token " + i, t.at(i, rows[i].length()), Check.UNKNOWN);
            Check.due("before token " + i, t.at(i, -1), Check.UNKNOWN);
        }
        Check.due("far behind", t.at(0, Integer.MAX_VALUE), Check.UNKNOWN);
        Check.due("far before", t.at(0, Integer.MIN_VALUE), Check.UNKNOWN);
        Check.line(t, "zzzzzzzzzzzz");
        Check.due("a new line leaves it", t.at(0, 0), 'G');
    }
}
