/** The boundaries that the document names in part 3, THINGS, and in promises 14 to 20; each method holds one. */
public final class ThingEdgesTest {
    private static final int ALL = 4095;

    public static void main(String[] args) {
        twelveThings();
        noThings();
        sixtyMeanings();
        noMeanings();
        meansOfTheFirstAndTheLast();
        flagOfAMeaning();
        flags();
        flagsAreDownAtFirst();
        flagWasOrWasNot();
        refersToNoneAtFirst();
        refersToThingsThatAre();
        refersToAllTwelve();
        pronounsAlone();
        everyThingIsMeant();
        everyFlagHolds();
        pluralMeansBoth();
        pluralOfAPluralMeansOneMore();
        pronounMeansWhatItRefersTo();
        otherSortsMeanNone();
        phraseOfOne();
        phraseOfTwentyFour();
        phraseEndsAtAnotherSort();
        phraseEndsAtAnotherKind();
        phraseEndsWithNothingInCommon();
        phraseOfNone();
        ofTheFirstAndTheLastToken();
        Check.end();
    }

    private static WordTables withThings(int things) {
        WordTables t = new WordTables(12);
        for (int k = 0; k < things; k++) {
            t.thing();
        }
        return t;
    }

    private static void twelveThings() {
        Check.sentence("THINGS, 12 at most, from 0 on. / A THING: its number. ROOM.");
        WordTables t = new WordTables(12);
        for (int k = 0; k < 12; k++) {
            Check.due("things before", t.told(5), k);
            Check.due("thing " + k, t.thing(), k);
        }
        Check.due("a 13th", t.thing(), Check.ROOM);
        Check.due("a 13th again", t.thing(), Check.ROOM);
        Check.due("things", t.told(5), 12);
        Check.word(t, "a", 0, Check.NOUN);
        Check.due("the last is known", t.means(11, 0, Check.NONE), 1);
        Check.due("the 13th is not", t.means(12, 0, Check.NONE), Check.UNKNOWN);
    }

    private static void noThings() {
        Check.sentence("THINGS, 12 at most, from 0 on: none");
        WordTables t = new WordTables(12);
        Check.word(t, "it", 0, Check.PRONOUN);
        Check.due("means", t.means(0, 0, 0), Check.UNKNOWN);
        Check.due("refer to the first", t.refer(0, 1), Check.OUTSIDE);
        Check.due("refer to none", t.refer(0, 0), 0);
        Check.read(t, "it", 0);
        Check.due("meant", t.meant(0), 0);
        Check.due("phrase", t.phrase(0), 0);
        Check.due("phraseLength", t.phraseLength(0), 0);
        Check.due("the first", t.thing(), 0);
        Check.due("refer to it", t.refer(0, 1), 0);
        Check.due("refer to a second", t.refer(0, 2), Check.OUTSIDE);
    }

    private static void sixtyMeanings() {
        Check.sentence("MEANINGS, 60 at most / A MEANING: how many there are. .. ROOM.");
        WordTables t = withThings(12);
        Check.word(t, "a", 0, Check.NOUN);
        Check.word(t, "b", 0, Check.NOUN);
        for (int k = 1; k <= 59; k++) {
            Check.due("meaning " + k, t.means(k % 11, 0, Check.NONE), k);
            Check.due("meanings", t.told(6), k);
        }
        Check.due("meaning 60", t.means(11, 1, Check.NONE), 60);
        Check.due("meaning 61", t.means(11, 0, Check.NONE), Check.ROOM);
        Check.due("meaning 61 again", t.means(0, 0, Check.NONE), Check.ROOM);
        Check.due("meanings", t.told(6), 60);
        Check.read(t, "a b", 0);
        Check.due("the 61st does not hold", t.meant(0), ALL - 2048);
        Check.due("the 60th does", t.meant(1), 2048);
    }

    private static void noMeanings() {
        Check.sentence("MEANINGS, 60 at most: none");
        WordTables t = withThings(12);
        Check.word(t, "a", 0, 63);
        for (int f = 0; f < 8; f++) {
            t.flag(f, true);
        }
        Check.read(t, "a", 0);
        Check.due("meanings", t.told(6), 0);
        Check.due("meant", t.meant(0), 0);
        Check.due("phrase", t.phrase(0), 0);
        Check.due("phraseLength", t.phraseLength(0), 0);
        Check.due("the first", t.means(0, 0, Check.NONE), 1);
        Check.due("meant", t.meant(0), 1);
    }

    private static void meansOfTheFirstAndTheLast() {
        Check.sentence("UNKNOWN: THING, WORD");
        WordTables t = withThings(12);
        for (int k = 0; k < 40; k++) {
            Check.word(t, "" + (char) (k < 26 ? 'a' + k : 128 + k - 26), 0, Check.NOUN);
        }
        Check.due("the first of the last", t.means(0, 39, Check.NONE), 1);
        Check.due("the last of the first", t.means(11, 0, Check.NONE), 2);
        for (int thing : Check.beyond(0, 11)) {
            Check.due("means(" + thing + ", 39, NONE)", t.means(thing, 39, Check.NONE), Check.UNKNOWN);
        }
        for (int word : Check.beyond(0, 39)) {
            Check.due("means(11, " + word + ", NONE)", t.means(11, word, Check.NONE), Check.UNKNOWN);
        }
        Check.due("meanings", t.told(6), 2);
        Check.read(t, "a \u008d", 0);
        Check.due("of the first word", t.meant(0), 2048);
        Check.due("of the last word", t.meant(1), 1);
    }

    private static void flagOfAMeaning() {
        Check.sentence("OUTSIDE: the FLAG (NONE or 0 .. 7)");
        WordTables t = withThings(1);
        Check.word(t, "a", 0, Check.NOUN);
        for (int flag = Check.NONE; flag <= 7; flag++) {
            Check.due("means(0, 0, " + flag + ")", t.means(0, 0, flag), flag + 2);
        }
        for (int flag : new int[] {-2, 8, 9, 31, 32, Integer.MIN_VALUE, Integer.MAX_VALUE}) {
            Check.due("means(0, 0, " + flag + ")", t.means(0, 0, flag), Check.OUTSIDE);
        }
        Check.due("meanings", t.told(6), 9);
    }

    private static void flags() {
        Check.sentence("a FLAG 0 .. 7 / flag: OUTSIDE.");
        WordTables t = new WordTables(12);
        Check.due("flag(0, true)", t.flag(0, true), 0);
        Check.due("flag(7, true)", t.flag(7, true), 0);
        for (int flag : new int[] {-1, 8, 9, 31, 32, 39, Integer.MIN_VALUE, Integer.MAX_VALUE}) {
            Check.due("flag(" + flag + ", true)", t.flag(flag, true), Check.OUTSIDE);
            Check.due("flag(" + flag + ", false)", t.flag(flag, false), Check.OUTSIDE);
        }
        for (int flag = 0; flag <= 7; flag++) {
            boolean up = flag == 0 || flag == 7;
            Check.due("flag(" + flag + ", false)", t.flag(flag, false), up ? 1 : 0);
        }
    }

    private static void flagsAreDownAtFirst() {
        Check.sentence("(FLAGS are down at first)");
        for (int flag = 0; flag <= 7; flag++) {
            WordTables t = withThings(1);
            Check.due("flag(" + flag + ", true)", t.flag(flag, true), 0);
            WordTables u = withThings(1);
            Check.word(u, "a", 0, Check.NOUN);
            u.means(0, 0, flag);
            Check.read(u, "a", 0);
            Check.due("under " + flag, u.meant(0), 0);
        }
    }

    private static void flagWasOrWasNot() {
        Check.sentence("A FLAG is up, or down: whether it was (1, 0).");
        for (int flag = 0; flag <= 7; flag++) {
            WordTables t = new WordTables(12);
            Check.due("down at first", t.flag(flag, false), 0);
            Check.due("down still", t.flag(flag, true), 0);
            Check.due("up", t.flag(flag, true), 1);
            Check.due("up still", t.flag(flag, false), 1);
            Check.due("down again", t.flag(flag, false), 0);
        }
    }

    private static void refersToNoneAtFirst() {
        Check.sentence("those that this REFERS to (none at first)");
        WordTables t = withThings(12);
        Check.word(t, "it", 0, Check.PRONOUN);
        Check.read(t, "it", 0);
        Check.due("meant", t.meant(0), 0);
        Check.due("about", t.about(0, 5), 0);
        Check.due("refer", t.refer(0, ALL), 0);
    }

    private static void refersToThingsThatAre() {
        Check.sentence("OUTSIDE: bits of no THINGS");
        for (int things = 0; things <= 12; things++) {
            WordTables t = withThings(things);
            Check.word(t, "it", 0, Check.PRONOUN);
            int all = (1 << things) - 1;
            Check.due("to all of " + things, t.refer(0, all), 0);
            Check.due("to one more", t.refer(0, all + 1), Check.OUTSIDE);
            Check.due("to all and one more", t.refer(0, 2 * all + 1), Check.OUTSIDE);
            for (int bit = things; bit < 32; bit++) {
                Check.due("to bit " + bit, t.refer(0, 1 << bit), Check.OUTSIDE);
            }
            Check.due("to all bits", t.refer(0, -1), Check.OUTSIDE);
            Check.due("it stays", t.about(0, 5), all);
            Check.due("to none", t.refer(0, 0), all);
        }
    }

    private static void refersToAllTwelve() {
        Check.sentence("A pronoun REFERS to THINGS (as bits): to which it did.");
        WordTables t = withThings(12);
        Check.word(t, "it", 0, Check.PRONOUN);
        int before = 0;
        for (int bits : new int[] {1, 2048, ALL, 0, 2730, 1365, ALL - 1}) {
            Check.due("refer(it, " + bits + ")", t.refer(0, bits), before);
            Check.due("about", t.about(0, 5), bits);
            before = bits;
        }
    }

    private static void pronounsAlone() {
        Check.sentence("STATE: it is no pronoun.");
        for (int kinds = 0; kinds <= 63; kinds++) {
            WordTables t = withThings(1);
            Check.word(t, "it", 0, kinds);
            boolean pronoun = (kinds & Check.PRONOUN) != 0;
            Check.due("kinds " + kinds, t.refer(0, 1), pronoun ? 0 : Check.STATE);
            Check.due("to none", t.refer(0, 0), pronoun ? 1 : Check.STATE);
            Check.word(t, "it", 0, Check.PRONOUN);
            Check.due("a pronoun since", t.refer(0, 1), 0);
        }
    }

    private static void everyThingIsMeant() {
        Check.sentence("What a TOKEN MEANS, as bits");
        for (int thing = 0; thing < 12; thing++) {
            WordTables t = withThings(12);
            Check.word(t, "a", 0, 0);
            t.means(thing, 0, Check.NONE);
            t.means(thing, 0, Check.NONE);
            Check.read(t, "a", 0);
            Check.due("thing " + thing, t.meant(0), 1 << thing);
        }
    }

    private static void everyFlagHolds() {
        Check.sentence("a FLAG 0 .. 7, or none, under which it holds");
        WordTables t = withThings(9);
        Check.word(t, "a", 0, 0);
        for (int thing = 0; thing < 9; thing++) {
            t.means(thing, 0, thing - 1);
        }
        Check.read(t, "a", 0);
        for (int flag = 0; flag < 8; flag++) {
            Check.due("all down", t.meant(0), 1);
            t.flag(flag, true);
            Check.due("up is " + flag, t.meant(0), 1 + (2 << flag));
            t.flag(flag, false);
        }
        for (int flag = 0; flag < 8; flag++) {
            t.flag(flag, true);
            Check.due("up to " + flag, t.meant(0), (4 << flag) - 1);
        }
    }

    private static void pluralMeansBoth() {
        Check.sentence("and, if that is a PLURAL, of the WORD that it is the PLURAL of");
        WordTables t = withThings(3);
        int one = Check.word(t, "one", 0, Check.NOUN);
        int all = Check.word(t, "all", 0, Check.NOUN);
        t.means(0, one, Check.NONE);
        t.means(1, one, 7);
        t.means(2, all, Check.NONE);
        Check.read(t, "one all", 0);
        Check.due("no plural yet", t.meant(1), 4);
        t.plural(all, one);
        Check.due("a plural", t.meant(1), 5);
        Check.due("the other is none", t.meant(0), 1);
        t.flag(7, true);
        Check.due("under a flag", t.meant(1), 7);
        t.plural(one, all);
        Check.due("each of the other", t.meant(0), 7);
        t.plural(all, Check.NONE);
        Check.due("no plural any more", t.meant(1), 4);
        Check.due("the other still", t.meant(0), 7);
    }

    private static void pluralOfAPluralMeansOneMore() {
        Check.sentence("of the WORD that it is the PLURAL of (and of no other)");
        WordTables t = withThings(3);
        for (int k = 0; k < 3; k++) {
            Check.word(t, "" + (char) ('a' + k), 0, Check.NOUN | Check.PRONOUN);
            t.means(k, k, Check.NONE);
        }
        t.plural(2, 1);
        t.plural(1, 0);
        Check.read(t, "a b c", 0);
        Check.due("of none", t.meant(0), 1);
        Check.due("of the first", t.meant(1), 3);
        Check.due("of the second", t.meant(2), 6);
        t.plural(0, 2);
        Check.due("in a ring", t.meant(0), 5);
        t.refer(0, 2);
        Check.due("its own pronoun", t.meant(0), 7);
        Check.due("not that of the other", t.meant(1), 3);
    }

    private static void pronounMeansWhatItRefersTo() {
        Check.sentence("if its WORD is a pronoun, also those that this REFERS to");
        WordTables t = withThings(12);
        int it = Check.word(t, "it", 0, Check.PRONOUN);
        t.means(0, it, Check.NONE);
        t.means(1, it, 0);
        t.refer(it, 2048);
        Check.read(t, "it", 0);
        Check.due("both", t.meant(0), 2049);
        t.refer(it, ALL);
        Check.due("all", t.meant(0), ALL);
        t.refer(it, 0);
        Check.due("meanings alone", t.meant(0), 1);
    }

    private static void otherSortsMeanNone() {
        Check.sentence("What a TOKEN MEANS, as bits (0 for another SORT).");
        WordTables t = withThings(12);
        Check.word(t, "a", 0, 63);
        t.means(0, 0, Check.NONE);
        t.refer(0, ALL);
        Check.due("read", Check.read(t, "a b 0 0:00 \"\" ! #", 0), 7);
        for (int i = 0; i < 7; i++) {
            Check.due("sort", t.token(i, 0), i);
            Check.due("meant(" + i + ")", t.meant(i), i == 0 ? ALL : 0);
        }
    }

    private static void phrase(WordTables t, int i, int bits, int length) {
        Check.due("phrase(" + i + ")", t.phrase(i), bits);
        Check.due("phraseLength(" + i + ")", t.phraseLength(i), length);
    }

    private static void phraseOfOne() {
        Check.sentence("A PHRASE from a TOKEN on: that one and those behind it");
        WordTables t = withThings(12);
        Check.word(t, "a", 0, Check.NOUN);
        t.means(11, 0, Check.NONE);
        Check.read(t, "a", 0);
        phrase(t, 0, 2048, 1);
    }

    private static void phraseOfTwentyFour() {
        Check.sentence("How many TOKENS that PHRASE has. (as many as there can be)");
        WordTables t = withThings(2);
        Check.word(t, "a", 0, Check.NOUN);
        Check.word(t, "b", 0, Check.ADJECTIVE);
        Check.join(t, "ab", 0, 1);
        t.means(0, 0, Check.NONE);
        t.means(1, 0, Check.NONE);
        t.means(1, 1, Check.NONE);
        Check.due("read", Check.read(t, "a a a a a a a a a a a a a a a a a a a a a a ab", 0), 24);
        for (int i = 0; i < 24; i++) {
            Check.due("phraseLength(" + i + ")", t.phraseLength(i), 24 - i);
        }
        for (int i = 0; i < 24; i++) {
            Check.due("phrase(" + i + ")", t.phrase(i), 2);
        }
    }

    private static void phraseEndsAtAnotherSort() {
        Check.sentence("as long as each is of SORT 0");
        for (String other : new String[] {"zz", "7", "1:30", "\"a\"", ".", "#"}) {
            WordTables t = withThings(1);
            Check.word(t, "a", 0, Check.NOUN);
            t.means(0, 0, Check.NONE);
            Check.due("read", Check.read(t, "a a " + other + " a", 0), 4);
            phrase(t, 0, 1, 2);
            phrase(t, 1, 1, 1);
            phrase(t, 2, 0, 0);
            phrase(t, 3, 1, 1);
        }
    }

    private static void phraseEndsAtAnotherKind() {
        Check.sentence("a noun, adjective or pronoun");
        for (int kinds = 0; kinds <= 63; kinds++) {
            WordTables t = withThings(1);
            Check.word(t, "a", 0, Check.NOUN);
            Check.word(t, "b", 0, kinds);
            t.means(0, 0, Check.NONE);
            t.means(0, 1, Check.NONE);
            Check.read(t, "a b a", 0);
            boolean names = (kinds & (Check.NOUN | Check.ADJECTIVE | Check.PRONOUN)) != 0;
            phrase(t, 0, 1, names ? 3 : 1);
            phrase(t, 1, names ? 1 : 0, names ? 2 : 0);
        }
    }

    private static void phraseEndsWithNothingInCommon() {
        Check.sentence("and some THING is meant by all of them so far");
        WordTables t = withThings(3);
        for (int k = 0; k < 3; k++) {
            Check.word(t, "" + (char) ('a' + k), 0, Check.NOUN);
            t.means(k, k, Check.NONE);
            t.means((k + 1) % 3, k, Check.NONE);
        }
        Check.read(t, "a b c a a", 0);
        phrase(t, 0, 2, 2);
        phrase(t, 1, 4, 2);
        phrase(t, 2, 1, 3);
        phrase(t, 3, 3, 2);
        phrase(t, 4, 3, 1);
    }

    private static void phraseOfNone() {
        Check.sentence("The THINGS that are meant by all TOKENS of the PHRASE .. (0: none)");
        WordTables t = withThings(1);
        Check.word(t, "a", 0, Check.NOUN);
        Check.word(t, "b", 0, Check.NOUN);
        t.means(0, 1, Check.NONE);
        t.means(0, 0, 0);
        Check.read(t, "a b", 0);
        phrase(t, 0, 0, 0);
        phrase(t, 1, 1, 1);
        t.flag(0, true);
        phrase(t, 0, 1, 2);
    }

    private static void ofTheFirstAndTheLastToken() {
        Check.sentence("meant, phrase, phraseLength: UNKNOWN (no such TOKEN)");
        WordTables t = withThings(1);
        Check.word(t, "a", 0, Check.NOUN);
        t.means(0, 0, Check.NONE);
        Check.due("read", Check.read(t, "a" + Check.times('.', 22) + "a", 0), 24);
        for (int i : new int[] {0, 23}) {
            Check.due("meant(" + i + ")", t.meant(i), 1);
            phrase(t, i, 1, 1);
        }
        for (int i : Check.beyond(0, 23)) {
            Check.due("meant(" + i + ")", t.meant(i), Check.UNKNOWN);
            phrase(t, i, Check.UNKNOWN, Check.UNKNOWN);
        }
    }
}
