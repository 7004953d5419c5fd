/** The boundaries that the document names in part 2, THE LINE, and in promises 8 to 11; each method holds one. */
public final class LineEdgesTest {
    private static final int[][] NO_TOKENS = {};

    public static void main(String[] args) {
        bytes();
        lineOfEighty();
        emptyLine();
        lineIsEmptyThen();
        languages();
        foundInItsLanguageFirst();
        rowsOfLettersAtTheCut();
        rowsLongerThanADraft();
        strangeWords();
        joinsAtTheCut();
        numbersUpTo30000();
        numbersThatWrapAround();
        hoursAndMinutes();
        halvesOfTheDay();
        timesWithoutAnEnd();
        timesAtTheEndOfTheLine();
        quotedTexts();
        quotedWithoutANextOne();
        everyByteAlone();
        everyByteBetweenItsOwn();
        everyPairOfBytes();
        twentyFourOfEverySort();
        joinsAtTheTwentyFifth();
        tokensStay();
        noTokens();
        tokenOfTheFirstAndTheLast();
        bytesOfTokens();
        bytesAsTheyStood();
        Check.end();
    }

    private static void bytes() {
        Check.sentence("A byte comes behind THE LINE: how many it has. OUTSIDE: it is not 0 .. 255");
        for (int from = 0; from <= 255; from += 64) {
            WordTables t = new WordTables(12);
            for (int c = from; c < from + 64; c++) {
                Check.due("type(" + c + ")", t.type(c), c - from + 1);
            }
            for (int c : Check.beyond(0, 255)) {
                Check.due("type(" + c + ")", t.type(c), Check.OUTSIDE);
            }
            Check.due("bytes", t.told(3), 64);
        }
    }

    private static void lineOfEighty() {
        Check.sentence("THE LINE has at most 80 bytes. .. ROOM.");
        for (int c : new int[] {0, ' ', '7', 'a', '"', '-', 255}) {
            WordTables t = new WordTables(12);
            for (int k = 1; k <= 80; k++) {
                Check.due("byte " + k, t.type(c), k);
            }
            Check.due("byte 81", t.type(c), Check.ROOM);
            Check.due("byte 81 again", t.type('.'), Check.ROOM);
            Check.due("bytes", t.told(3), 80);
            Check.due("read", t.read(0), c == ' ' ? 0 : c == '"' ? Check.ROOM : 1);
            Check.due("bytes then", t.told(3), 0);
            Check.due("the next one", t.type(c), 1);
        }
        WordTables t = new WordTables(12);
        Check.tokens(t, Check.times('a', 80), 0, Check.row(1, 0, 80, Check.NONE));
        Check.tokens(t, Check.times(' ', 79) + "a", 0, Check.row(1, 79, 1, Check.NONE));
        Check.tokens(t, "1" + Check.times(' ', 78) + "2", 0, Check.row(2, 0, 1, 1), Check.row(2, 79, 1, 2));
    }

    private static void emptyLine() {
        Check.sentence("blanks (32) left out");
        WordTables t = new WordTables(12);
        Check.tokens(t, "", 0, NO_TOKENS);
        Check.tokens(t, " ", 1, NO_TOKENS);
        Check.tokens(t, Check.times(' ', 80), 2, NO_TOKENS);
        Check.tokens(t, "a", 0, Check.row(1, 0, 1, Check.NONE));
        Check.tokens(t, "", 0, NO_TOKENS);
        Check.tokens(t, "\u001f\u0021", 0, Check.row(6, 0, 1, Check.NONE), Check.row(5, 1, 1, '!'));
        Check.tokens(t, "  a  b  ", 0, Check.row(1, 2, 1, Check.NONE), Check.row(1, 5, 1, Check.NONE));
    }

    private static void lineIsEmptyThen() {
        Check.sentence("THE LINE, which is empty then whatever the answer");
        String[] lines = {"a b", "", Check.times('.', 24), Check.times('.', 25), Check.times('a', 80)};
        for (String line : lines) {
            for (int language = -1; language <= 3; language++) {
                WordTables t = new WordTables(12);
                Check.read(t, line, language);
                Check.due("bytes behind <" + line + "> in " + language, t.told(3), 0);
                Check.due("the next byte", t.type('x'), 1);
                Check.due("is alone", t.read(0), 1);
                Check.due("at the first place", t.token(0, 1), 0);
            }
        }
    }

    private static void languages() {
        Check.sentence("is read in a LANGUAGE: how many TOKENS. OUTSIDE: the LANGUAGE");
        WordTables t = new WordTables(12);
        for (int language = 0; language <= 2; language++) {
            Check.due("read in " + language, Check.read(t, "a b", language), 2);
        }
        for (int language : Check.beyond(0, 2)) {
            Check.due("read in " + language, Check.read(t, "a b c", language), Check.OUTSIDE);
            Check.due("tokens stay", t.told(4), 2);
        }
    }

    private static void foundInItsLanguageFirst() {
        Check.sentence("FOUND in the LANGUAGE, or else in LANGUAGE 0");
        for (int have = 1; have <= 7; have++) {
            WordTables t = new WordTables(12);
            int[] number = {Check.NONE, Check.NONE, Check.NONE};
            for (int language = 2; language >= 0; language--) {
                if ((have >> language & 1) == 1) {
                    number[language] = Check.word(t, "a", language, 1);
                }
            }
            for (int language = 0; language <= 2; language++) {
                int due = number[language] == Check.NONE ? number[0] : number[language];
                Check.tokens(t, "A", language, Check.row(due == Check.NONE ? 1 : 0, 0, 1, due));
            }
        }
    }

    private static void rowsOfLettersAtTheCut() {
        Check.sentence("the WORD that is LIKE it: SORT 0, its number");
        for (int cut = 1; cut <= 12; cut++) {
            for (int told = Math.max(1, cut - 1); told <= cut + 1; told++) {
                WordTables t = new WordTables(cut);
                Check.word(t, Check.times('a', told), 0, 1);
                for (int typed = Math.max(1, cut - 1); typed <= cut + 1; typed++) {
                    boolean like = told == typed || told >= cut && typed >= cut;
                    Check.tokens(t, Check.times('A', typed), 0,
                            Check.row(like ? 0 : 1, 0, typed, like ? 0 : Check.NONE));
                }
                String last = Check.times('a', told - 1) + "b";
                boolean like = told > cut;
                Check.tokens(t, last, 0, Check.row(like ? 0 : 1, 0, told, like ? 0 : Check.NONE));
            }
        }
    }

    private static void rowsLongerThanADraft() {
        Check.sentence("a letter: the row of all letters from there on");
        WordTables t = new WordTables(12);
        Check.word(t, Check.times('a', 20), 0, 1);
        for (int typed : new int[] {12, 20, 21, 80}) {
            Check.tokens(t, Check.times('a', typed), 0, Check.row(0, 0, typed, 0));
        }
        Check.tokens(t, Check.times('a', 11), 0, Check.row(1, 0, 11, Check.NONE));
        Check.tokens(t, "AZaz\u0080\u009f@", 0, Check.row(1, 0, 6, Check.NONE), Check.row(6, 6, 1, Check.NONE));
    }

    private static void strangeWords() {
        Check.sentence("Else SORT 1 (UNKNOWN), NONE.");
        WordTables t = new WordTables(12);
        Check.tokens(t, "a", 0, Check.row(1, 0, 1, Check.NONE, 0));
        Check.word(t, "ab", 0, 63);
        Check.tokens(t, "a ab abc", 0, Check.row(1, 0, 1, Check.NONE, 0), Check.row(0, 2, 2, 0, 63),
                Check.row(1, 5, 3, Check.NONE, 0));
    }

    private static void joinsAtTheCut() {
        Check.sentence("two TOKENS of SORT 0, both with this place and length, of its WORDS");
        WordTables t = new WordTables(4);
        int go = Check.word(t, "go", 1, 1);
        int in = Check.word(t, "in", 2, 8);
        Check.join(t, "goin", go, in);
        for (int language = 0; language <= 2; language++) {
            Check.tokens(t, " goinggoing!", language, Check.row(0, 1, 10, go, 1), Check.row(0, 1, 10, in, 8),
                    Check.row(5, 11, 1, '!', 0));
            Check.tokens(t, "GOIN", language, Check.row(0, 0, 4, go), Check.row(0, 0, 4, in));
            Check.tokens(t, "goi", language, Check.row(1, 0, 3, Check.NONE));
        }
    }

    private static void numbersUpTo30000() {
        Check.sentence("SORT 2, its number, if that is not above 30000; else SORT 6, NONE");
        String[] zeros = {"", "0", "000", Check.times('0', 60)};
        for (String before : zeros) {
            for (int n : new int[] {0, 1, 9, 10, 99, 2999, 3000, 3001, 9999, 10000, 29999, 30000}) {
                WordTables t = new WordTables(12);
                String line = before + n;
                Check.tokens(t, line, 0, Check.row(2, 0, line.length(), n));
            }
            for (int n : new int[] {30001, 30002, 30009, 30010, 31000, 40000, 99999, 100000, 300000, 300001}) {
                WordTables t = new WordTables(12);
                String line = before + n;
                Check.tokens(t, line, 0, Check.row(6, 0, line.length(), Check.NONE));
            }
        }
        WordTables t = new WordTables(12);
        Check.tokens(t, "/9:", 0, Check.row(6, 0, 1, Check.NONE), Check.row(2, 1, 1, 9),
                Check.row(6, 2, 1, Check.NONE));
    }

    /** Numbers that would be small again if they were kept in 16, 31, 32, 63 or 64 bits. */
    private static void numbersThatWrapAround() {
        Check.sentence("SORT 2, its number, if that is not above 30000; else SORT 6, NONE (a wrap-around)");
        String[] great = {"32767", "32768", "65535", "65536", "65541", "2147483647", "2147483648", "2147483653",
            "4294967295", "4294967296", "4294967301", "4294997296", "9223372036854775807", "9223372036854775813",
            "18446744073709551615", "18446744073709551616", "18446744073709551621", Check.times('9', 80),
            "1" + Check.times('0', 79), "3000" + Check.times('0', 76), Check.times('0', 74) + "300001"};
        for (String line : great) {
            WordTables t = new WordTables(12);
            Check.tokens(t, line, 0, Check.row(6, 0, line.length(), Check.NONE));
        }
        WordTables t = new WordTables(12);
        Check.tokens(t, Check.times('0', 80), 0, Check.row(2, 0, 80, 0));
        Check.tokens(t, Check.times('0', 75) + "30000", 0, Check.row(2, 0, 80, 30000));
    }

    /** A line that begins with hours, a colon and minutes: a time as due, or a number and what is behind it. */
    private static void timeOrNot(String hours, String minutes, String behind, int number, int length) {
        WordTables t = new WordTables(12);
        String line = hours + ":" + minutes + behind;
        Check.read(t, line, 0);
        boolean time = number != Check.NONE;
        int first = Integer.parseInt(hours);
        Check.token(t, line, 0, time ? Check.row(3, 0, length, number) : Check.row(2, 0, hours.length(), first));
    }

    private static void hoursAndMinutes() {
        Check.sentence("one or two digits, a byte 58, two digits, no digit behind; the first 0 .. 23, the second 0 .. 59");
        for (int hour = 0; hour <= 99; hour++) {
            for (int minute = 0; minute <= 99; minute++) {
                boolean time = hour <= 23 && minute <= 59;
                String two = "" + minute / 10 + minute % 10;
                timeOrNot("" + hour, two, "", time ? 60 * hour + minute : Check.NONE, ("" + hour).length() + 3);
                if (hour <= 9) {
                    timeOrNot("0" + hour, two, "", time ? 60 * hour + minute : Check.NONE, 5);
                    timeOrNot("00" + hour, two, "", Check.NONE, 0);
                }
            }
        }
    }

    private static void halvesOfTheDay() {
        Check.sentence("they belong to it, as long as the first is 1 .. 12 (12 is 0 then; p m: 12 more)");
        for (int hour = 0; hour <= 23; hour++) {
            for (int minute : new int[] {0, 1, 59}) {
                int plain = 60 * hour + minute;
                boolean half = hour >= 1 && hour <= 12;
                int am = half ? 60 * (hour % 12) + minute : plain;
                int pm = half ? am + 720 : plain;
                int length = ("" + hour).length() + 3;
                int all = half ? length + 2 : length;
                String two = "" + minute / 10 + minute % 10;
                for (String a : new String[] {"am", "AM", "aM", "am ", "am1", "am.", "am\"", "am-", "am:00"}) {
                    timeOrNot("" + hour, two, a, am, all);
                }
                for (String p : new String[] {"pm", "PM", "Pm", "pm ", "pm1", "pm.", "pm\"", "pm-", "pm@"}) {
                    timeOrNot("" + hour, two, p, pm, all);
                }
                for (String no : new String[] {"a", "p", "m", "amx", "pmZ", "am\u0080", "pm\u009f", " am", "aam", "ma",
                    "mm", "bm", "om", "qm", "al", "pn", "a m", "a.m", ".am"}) {
                    timeOrNot("" + hour, two, no, plain, length);
                }
            }
        }
    }

    private static void timesWithoutAnEnd() {
        Check.sentence("one or two digits, a byte 58, two digits, no digit behind (less or more of each)");
        String[] no = {"1", "", "1a", "1 2", "-1", "123", "000", "1234", " 12", ":12"};
        for (String minutes : no) {
            timeOrNot("7", minutes, "", Check.NONE, 0);
            timeOrNot("17", minutes, "", Check.NONE, 0);
        }
        WordTables t = new WordTables(12);
        Check.tokens(t, "7;30", 0, Check.row(2, 0, 1, 7), Check.row(5, 1, 1, ';'), Check.row(2, 2, 2, 30));
        Check.tokens(t, "7930", 0, Check.row(2, 0, 4, 7930));
        Check.tokens(t, ":30", 0, Check.row(6, 0, 1, Check.NONE), Check.row(2, 1, 2, 30));
        Check.tokens(t, "123:45", 0, Check.row(2, 0, 3, 123), Check.row(6, 3, 1, Check.NONE),
                Check.row(2, 4, 2, 45));
        Check.tokens(t, "123:23:06", 0, Check.row(2, 0, 3, 123), Check.row(6, 3, 1, Check.NONE),
                Check.row(3, 4, 5, 1386));
    }

    private static void timesAtTheEndOfTheLine() {
        Check.sentence("if right behind stand two letters, .. and no letter behind these (at byte 80)");
        String[] ends = {"1", "1:", "1:3", "1:30", "1:30p", "1:30pm"};
        int[] sorts = {2, 2, 2, 3, 3, 3};
        int[] lengths = {1, 1, 1, 4, 4, 6};
        int[] numbers = {1, 1, 1, 90, 90, 810};
        for (int k = 0; k < ends.length; k++) {
            WordTables t = new WordTables(12);
            int place = 80 - ends[k].length();
            Check.read(t, Check.times(' ', place) + ends[k], 0);
            Check.token(t, "<" + ends[k] + "> at the end", 0, Check.row(sorts[k], place, lengths[k], numbers[k]));
        }
    }

    private static void quotedTexts() {
        Check.sentence("34: all up to the next 34, that with it: SORT 4, how many bytes stand between");
        for (int between = 0; between <= 78; between++) {
            WordTables t = new WordTables(12);
            Check.due("read", Check.read(t, "\"" + Check.times('.', between) + "\"", 0), 1);
            Check.token(t, between + " quoted", 0, Check.row(4, 0, between + 2, between, 0));
        }
        WordTables t = new WordTables(12);
        Check.tokens(t, "\"\"\"\"", 0, Check.row(4, 0, 2, 0), Check.row(4, 2, 2, 0));
        Check.tokens(t, "\"#!\"#!", 0, Check.row(4, 0, 4, 2), Check.row(6, 4, 1, Check.NONE),
                Check.row(5, 5, 1, '!'));
    }

    private static void quotedWithoutANextOne() {
        Check.sentence("without a next one: all up to the end, SORT 6, NONE");
        for (int behind = 0; behind <= 79; behind++) {
            WordTables t = new WordTables(12);
            Check.due("read", Check.read(t, "\"" + Check.times('.', behind), 0), 1);
            Check.token(t, behind + " behind a quote", 0, Check.row(6, 0, behind + 1, Check.NONE, 0));
        }
        WordTables t = new WordTables(12);
        Check.tokens(t, "\"\"\"", 0, Check.row(4, 0, 2, 0), Check.row(6, 2, 1, Check.NONE));
    }

    private static int sortOf(int c) {
        boolean letter = c >= 65 && c <= 90 || c >= 97 && c <= 122 || c >= 128 && c <= 159;
        boolean mark = c == 46 || c == 44 || c == 59 || c == 33 || c == 63;
        return c == 32 ? Check.NONE : letter ? 1 : c >= 48 && c <= 57 ? 2 : mark ? 5 : 6;
    }

    private static void everyByteAlone() {
        Check.sentence("at the place there is a letter / a digit / 34 / one of . , ; ! ? alone / any other byte");
        for (int c = 0; c <= 255; c++) {
            WordTables t = new WordTables(12);
            int sort = sortOf(c);
            int number = sort == 5 ? c : sort == 2 ? c - '0' : Check.NONE;
            if (sort == Check.NONE) {
                Check.tokens(t, "" + (char) c, 0, NO_TOKENS);
            } else {
                Check.tokens(t, "" + (char) c, 0, Check.row(sort, 0, 1, number, 0));
            }
        }
    }

    private static void everyByteBetweenItsOwn() {
        Check.sentence("all bytes from there on of none of these (no letter, digit, blank, 34, . , ; ! ?)");
        for (int c = 0; c <= 255; c++) {
            WordTables t = new WordTables(12);
            boolean other = sortOf(c) == 6 && c != 34;
            Check.read(t, "#" + (char) c + "#", 0);
            Check.due("length of what # and byte " + c + " come to", t.token(0, 2), other ? 3 : 1);
            Check.due("its sort", t.token(0, 0), 6);
        }
    }

    /** By the model: what two bytes come to, whichever they are. */
    private static void everyPairOfBytes() {
        Check.sentence("From the first byte on, .. at the place there is");
        for (int a = 0; a <= 255; a++) {
            for (int b = 0; b <= 255; b++) {
                WordTables t = new WordTables(12);
                PlainModel m = new PlainModel(12);
                t.type(a);
                m.type(a);
                t.type(b);
                m.type(b);
                Check.due("read of " + a + " " + b, t.read(0), m.read(0));
                for (int what = 0; what <= 3; what++) {
                    Check.due(a + " " + b + ": token(0, " + what + ")", t.token(0, what), m.token(0, what));
                    Check.due(a + " " + b + ": token(1, " + what + ")", t.token(1, what), m.token(1, what));
                }
            }
        }
    }

    private static void twentyFourOfEverySort() {
        Check.sentence("TOKENS, 24 at most; ROOM: there would be more than 24");
        String[] ends = {"go", "x", "7", "1:30", "\"\"", "\"", "?", "#"};
        int[] sorts = {0, 1, 2, 3, 4, 6, 5, 6};
        for (int k = 0; k < ends.length; k++) {
            WordTables t = new WordTables(12);
            Check.word(t, "go", 0, 1);
            Check.due("as the 24th: " + ends[k], Check.read(t, Check.times('.', 23) + ends[k], 0), 24);
            Check.due("its sort", t.token(23, 0), sorts[k]);
            Check.due("its place", t.token(23, 1), 23);
            Check.due("as the 25th: " + ends[k], Check.read(t, Check.times(',', 24) + ends[k], 0), Check.ROOM);
            Check.due("the first stays", t.token(0, 3), '.');
            Check.due("the last stays", t.token(23, 0), sorts[k]);
            Check.due("there is no next", t.token(24, 0), Check.UNKNOWN);
            Check.due("a 25th in front", Check.read(t, ends[k] + " " + Check.times(',', 24), 0),
                    ends[k].equals("\"") ? 1 : Check.ROOM);
        }
        WordTables t = new WordTables(12);
        Check.due("blanks behind the 24th", Check.read(t, Check.times('.', 24) + Check.times(' ', 56), 0), 24);
        Check.due("a 25th behind them", Check.read(t, Check.times('.', 24) + Check.times(' ', 55) + "a", 0), Check.ROOM);
    }

    private static void joinsAtTheTwentyFifth() {
        Check.sentence("If there would be a 25th, the LINE is not read (TOKENS stay). (with JOINS)");
        for (int before = 20; before <= 25; before++) {
            WordTables t = new WordTables(12);
            Check.word(t, "a", 0, 1);
            Check.join(t, "b", 0, 0);
            Check.due("one before", Check.read(t, "a", 0), 1);
            boolean room = before + 2 <= 24;
            Check.due(before + " and a join", Check.read(t, Check.times('.', before) + "b", 0),
                    room ? before + 2 : Check.ROOM);
            Check.due("tokens", t.told(4), room ? before + 2 : 1);
            Check.due("the first", t.token(0, 0), room ? 5 : 0);
        }
        WordTables t = new WordTables(12);
        Check.word(t, "a", 0, 1);
        Check.join(t, "b", 0, 0);
        Check.due("12 joins", Check.read(t, "b b b b b b b b b b b b", 0), 24);
        Check.due("13 joins", Check.read(t, "b b b b b b b b b b b b b", 0), Check.ROOM);
        Check.due("tokens stay", t.token(23, 1), 22);
    }

    private static void tokensStay() {
        Check.sentence("the LINE is not read (TOKENS stay)");
        WordTables t = new WordTables(12);
        Check.tokens(t, "a 12 1:30", 0, Check.row(1, 0, 1, Check.NONE), Check.row(2, 2, 2, 12), Check.row(3, 5, 4, 90));
        for (int again = 0; again < 3; again++) {
            Check.due("25", Check.read(t, Check.times('?', 25), 0), Check.ROOM);
            Check.due("tokens", t.told(4), 3);
            Check.token(t, "staying", 0, Check.row(1, 0, 1, Check.NONE));
            Check.token(t, "staying", 1, Check.row(2, 2, 2, 12));
            Check.token(t, "staying", 2, Check.row(3, 5, 4, 90));
            Check.due("its bytes", t.at(1, 1), '2');
            Check.due("its bytes", t.at(2, 3), '0');
        }
        Check.tokens(t, "b", 0, Check.row(1, 0, 1, Check.NONE));
        Check.due("its byte", t.at(0, 0), 'b');
    }

    private static void noTokens() {
        Check.sentence("UNKNOWN (no such .. TOKEN): none");
        for (int lines = 0; lines <= 1; lines++) {
            WordTables t = new WordTables(12);
            if (lines == 1) {
                Check.read(t, "a b", 0);
                t.read(0);
            }
            Check.due("token", t.token(0, 0), Check.UNKNOWN);
            Check.due("at", t.at(0, 0), Check.UNKNOWN);
            Check.due("amount", t.amount(0), Check.UNKNOWN);
            Check.due("amountLength", t.amountLength(0), Check.UNKNOWN);
            Check.due("meant", t.meant(0), Check.UNKNOWN);
            Check.due("phrase", t.phrase(0), Check.UNKNOWN);
            Check.due("phraseLength", t.phraseLength(0), Check.UNKNOWN);
        }
    }

    private static void tokenOfTheFirstAndTheLast() {
        Check.sentence("what = 0 its SORT, .. 4 KINDS of its WORD (0: not of SORT 0). UNKNOWN.");
        WordTables t = new WordTables(12);
        Check.word(t, "a", 0, 63);
        Check.due("read", Check.read(t, "a" + Check.times('.', 22) + "a", 0), 24);
        Check.token(t, "first", 0, Check.row(0, 0, 1, 0, 63));
        Check.token(t, "second", 1, Check.row(5, 1, 1, '.', 0));
        Check.token(t, "last", 23, Check.row(0, 23, 1, 0, 63));
        for (int i : Check.beyond(0, 23)) {
            for (int what = -1; what <= 5; what++) {
                Check.due("token(" + i + ", " + what + ")", t.token(i, what), Check.UNKNOWN);
            }
        }
        for (int what : Check.beyond(0, 4)) {
            Check.due("token(0, " + what + ")", t.token(0, what), Check.UNKNOWN);
            Check.due("token(23, " + what + ")", t.token(23, what), Check.UNKNOWN);
        }
    }

    private static void bytesOfTokens() {
        Check.sentence("Byte k of a TOKEN .. UNKNOWN: also, it has not so many.");
        String[] rows = {"Go", "Zz", "042", "1:30PM", "\" . \"", ";", "#\u00ff", "30001", "\" "};
        WordTables t = new WordTables(12);
        Check.word(t, "go", 0, 1);
        Check.due("read", Check.read(t, String.join(" ", rows), 0), rows.length);
        for (int i = 0; i < rows.length; i++) {
            for (int k = 0; k < rows[i].length(); k++) {
                Check.due("at(" + i + ", " + k + ")", t.at(i, k), rows[i].charAt(k));
            }
            for (int k : Check.beyond(0, rows[i].length() - 1)) {
                Check.due("at(" + i + ", " + k + ")", t.at(i, k), Check.UNKNOWN);
            }
        }
        for (int i : Check.beyond(0, rows.length - 1)) {
            Check.due("at(" + i + ", 0)", t.at(i, 0), Check.UNKNOWN);
        }
        WordTables u = new WordTables(12);
        Check.read(u, Check.times('a', 79) + "b", 0);
        Check.due("the last of 80", u.at(0, 79), 'b');
        Check.due("behind it", u.at(0, 80), Check.UNKNOWN);
    }

    private static void bytesAsTheyStood() {
        Check.sentence("as it stood in THE LINE");
        WordTables t = new WordTables(1);
        t.fold(0x80, 'g');
        Check.word(t, "go", 0, 1);
        Check.join(t, "xy", 0, 0);
        Check.due("read", Check.read(t, " \u0080O XYZ", 0), 3);
        Check.due("not folded", t.at(0, 0), 0x80);
        Check.due("not folded", t.at(0, 1), 'O');
        for (int i = 1; i <= 2; i++) {
            Check.due("of a join's token", t.at(i, 0), 'X');
            Check.due("of a join's token", t.at(i, 2), 'Z');
            Check.due("behind it", t.at(i, 3), Check.UNKNOWN);
        }
        Check.line(t, "another line");
        Check.due("a new line leaves them", t.at(0, 0), 0x80);
    }
}
