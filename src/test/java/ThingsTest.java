/** Promises 14 (thing), 15 (means), 16 (flag), 17 (refer), 18 (meant), 19 (phrase), 20 (phraseLength). */
public final class ThingsTest {
    public static void main(String[] args) {
        thingsHaveRoomForTwelve();
        meansRefuses();
        meaningsHaveRoomForSixty();
        flagsTellWhatTheyWere();
        referTellsWhatItDid();
        meantByNone();
        meantUnderFlags();
        meantByPlurals();
        meantByPronouns();
        meantByOthers();
        phrases();
        phrasesOfKinds();
        phrasesRefuse();
        Check.end();
    }

    private static void thingsHaveRoomForTwelve() {
        WordTables t = new WordTables(6);
        for (int k = 0; k < 12; k++) {
            Check.due("thing " + k, t.thing(), k);
            Check.due("things", t.told(5), k + 1);
        }
        Check.due("a 13th", t.thing(), Check.ROOM);
        Check.due("things", t.told(5), 12);
    }

    private static void meansRefuses() {
        WordTables t = new WordTables(6);
        Check.due("none yet", t.means(0, 0, -1), Check.UNKNOWN);
        t.thing();
        Check.due("no word", t.means(0, 0, -1), Check.UNKNOWN);
        Check.word(t, "lamp", 0, Check.NOUN);
        int[] wrong = {-1, 1, Integer.MIN_VALUE, Integer.MAX_VALUE};
        for (int w : wrong) {
            Check.due("thing " + w, t.means(w, 0, 0), Check.UNKNOWN);
            Check.due("word " + w, t.means(0, w, 0), Check.UNKNOWN);
            Check.due("unknown before outside", t.means(0, w, 8), Check.UNKNOWN);
        }
        int[] flags = {-2, 8, Integer.MIN_VALUE, Integer.MAX_VALUE};
        for (int f : flags) {
            Check.due("flag " + f, t.means(0, 0, f), Check.OUTSIDE);
        }
        Check.due("meanings", t.told(6), 0);
        Check.due("none", t.means(0, 0, Check.NONE), 1);
        Check.due("0", t.means(0, 0, 0), 2);
        Check.due("7", t.means(0, 0, 7), 3);
        Check.due("the same again", t.means(0, 0, 7), 4);
        Check.due("meanings", t.told(6), 4);
    }

    private static void meaningsHaveRoomForSixty() {
        WordTables t = new WordTables(6);
        Check.word(t, "lamp", 0, Check.NOUN);
        Check.word(t, "door", 0, Check.NOUN);
        t.thing();
        t.thing();
        for (int k = 1; k < 60; k++) {
            Check.due("meaning " + k, t.means(0, 0, k % 8), k);
        }
        Check.due("meaning 60", t.means(1, 1, Check.NONE), 60);
        Check.due("meaning 61", t.means(1, 0, Check.NONE), Check.ROOM);
        Check.due("outside before room", t.means(1, 0, 8), Check.OUTSIDE);
        Check.due("unknown before room", t.means(2, 0, 8), Check.UNKNOWN);
        Check.due("meanings", t.told(6), 60);
        Check.read(t, "lamp door", 0);
        Check.due("the last counts", t.meant(1), 2);
        Check.due("the refused one does not", t.meant(0), 0);
    }

    private static void flagsTellWhatTheyWere() {
        WordTables t = new WordTables(6);
        for (int f = 0; f < 8; f++) {
            Check.due("up " + f, t.flag(f, true), 0);
            Check.due("up again " + f, t.flag(f, true), 1);
            Check.due("down " + f, t.flag(f, false), 1);
            Check.due("down again " + f, t.flag(f, false), 0);
            Check.due("up at last " + f, t.flag(f, true), 0);
        }
        Check.due("down 3", t.flag(3, false), 1);
        Check.due("4 stays", t.flag(4, true), 1);
        Check.due("2 stays", t.flag(2, true), 1);
        int[] wrong = {-1, 8, 32, 35, Integer.MIN_VALUE, Integer.MAX_VALUE};
        for (int f : wrong) {
            Check.due("flag " + f, t.flag(f, true), Check.OUTSIDE);
        }
        Check.due("3 is down", t.flag(3, false), 0);
    }

    private static void referTellsWhatItDid() {
        WordTables t = new WordTables(6);
        int it = Check.word(t, "it", 0, Check.PRONOUN);
        int lamp = Check.word(t, "lamp", 0, 63 - Check.PRONOUN);
        Check.due("no things", t.refer(it, 1), Check.OUTSIDE);
        Check.due("to none", t.refer(it, 0), 0);
        t.thing();
        t.thing();
        Check.due("to both", t.refer(it, 3), 0);
        Check.due("to one", t.refer(it, 2), 3);
        int[] wrong = {4, 7, -1, Integer.MIN_VALUE, Integer.MAX_VALUE};
        for (int bits : wrong) {
            Check.due("bits " + bits, t.refer(it, bits), Check.OUTSIDE);
            Check.due("outside before state", t.refer(lamp, bits), Check.OUTSIDE);
            Check.due("unknown before outside", t.refer(2, bits), Check.UNKNOWN);
        }
        Check.due("it stays", t.about(it, 5), 2);
        Check.due("no pronoun", t.refer(lamp, 1), Check.STATE);
        Check.due("unknown", t.refer(-1, 1), Check.UNKNOWN);
        for (int k = 2; k < 12; k++) {
            t.thing();
        }
        Check.due("to all", t.refer(it, 4095), 2);
        Check.due("to a 13th", t.refer(it, 4096), Check.OUTSIDE);
        Check.due("to none", t.refer(it, 0), 4095);
    }

    private static void meantByNone() {
        WordTables t = new WordTables(6);
        Check.word(t, "lamp", 0, Check.NOUN | Check.PRONOUN);
        t.thing();
        t.flag(0, true);
        Check.read(t, "lamp", 0);
        Check.due("no meanings", t.meant(0), 0);
    }

    private static void meantUnderFlags() {
        WordTables t = new WordTables(6);
        int lamp = Check.word(t, "lamp", 0, Check.VERB);
        Check.word(t, "door", 0, Check.NOUN);
        for (int k = 0; k < 12; k++) {
            t.thing();
        }
        t.means(11, lamp, 7);
        t.means(0, lamp, 0);
        t.means(3, lamp, Check.NONE);
        t.means(3, lamp, 5);
        Check.due("read", Check.read(t, "lamp door", 0), 2);
        Check.due("all down", t.meant(0), 8);
        t.flag(7, true);
        Check.due("7 up", t.meant(0), 8 + 2048);
        t.flag(0, true);
        t.flag(5, true);
        Check.due("all up", t.meant(0), 8 + 2048 + 1);
        t.flag(7, false);
        Check.due("7 down", t.meant(0), 8 + 1);
        Check.due("another word", t.meant(1), 0);
    }

    private static void meantByPlurals() {
        WordTables t = new WordTables(6);
        int lamp = Check.word(t, "lamp", 0, Check.NOUN);
        int lamps = Check.word(t, "lamps", 0, Check.NOUN);
        int many = Check.word(t, "many", 0, Check.NOUN);
        for (int k = 0; k < 4; k++) {
            t.thing();
        }
        t.means(0, lamp, Check.NONE);
        t.means(1, lamp, 2);
        t.means(2, lamps, Check.NONE);
        t.means(3, many, Check.NONE);
        t.plural(lamps, lamp);
        t.plural(many, lamps);
        Check.read(t, "lamp lamps many", 0);
        Check.due("the one", t.meant(0), 1);
        Check.due("its plural", t.meant(1), 1 + 4);
        Check.due("the plural's plural goes one step", t.meant(2), 4 + 8);
        t.flag(2, true);
        Check.due("under a flag", t.meant(1), 1 + 2 + 4);
        t.plural(lamps, Check.NONE);
        Check.due("a plural no more", t.meant(1), 4);
    }

    private static void meantByPronouns() {
        WordTables t = new WordTables(6);
        int it = Check.word(t, "it", 0, Check.PRONOUN);
        int them = Check.word(t, "them", 0, Check.NOUN);
        int they = Check.word(t, "they", 0, Check.PRONOUN);
        for (int k = 0; k < 4; k++) {
            t.thing();
        }
        t.plural(them, it);
        t.plural(they, it);
        t.means(0, it, Check.NONE);
        t.refer(it, 2);
        t.refer(they, 8);
        Check.read(t, "it them they", 0);
        Check.due("meanings and what it refers to", t.meant(0), 1 + 2);
        Check.due("a plural has the meanings alone", t.meant(1), 1);
        Check.due("and its own", t.meant(2), 1 + 8);
        t.refer(it, 0);
        Check.due("refers to none", t.meant(0), 1);
    }

    private static void meantByOthers() {
        WordTables t = new WordTables(6);
        Check.word(t, "lamp", 0, Check.NOUN);
        t.thing();
        t.means(0, 0, Check.NONE);
        Check.read(t, "0 x 0:00 \"\" . -", 0);
        for (int i = 0; i < 6; i++) {
            Check.due("meant(" + i + ")", t.meant(i), 0);
            Check.due("phrase(" + i + ")", t.phrase(i), 0);
            Check.due("phraseLength(" + i + ")", t.phraseLength(i), 0);
        }
    }

    private static void phrase(WordTables t, int i, int bits, int length) {
        Check.due("phrase(" + i + ")", t.phrase(i), bits);
        Check.due("phraseLength(" + i + ")", t.phraseLength(i), length);
    }

    private static void phrases() {
        WordTables t = new WordTables(6);
        int red = Check.word(t, "red", 0, Check.ADJECTIVE);
        int lamp = Check.word(t, "lamp", 0, Check.NOUN);
        int door = Check.word(t, "door", 0, Check.NOUN);
        int it = Check.word(t, "it", 0, Check.PRONOUN);
        Check.word(t, "ghost", 0, Check.NOUN);
        for (int k = 0; k < 3; k++) {
            t.thing();
        }
        t.means(0, red, Check.NONE);
        t.means(1, red, Check.NONE);
        t.means(0, lamp, Check.NONE);
        t.means(2, lamp, Check.NONE);
        t.means(1, door, Check.NONE);
        t.refer(it, 4);
        Check.due("read", Check.read(t, "red lamp it door red.red ghost", 0), 8);
        phrase(t, 0, 1, 2);
        phrase(t, 1, 4, 2);
        phrase(t, 2, 4, 1);
        phrase(t, 3, 2, 2);
        phrase(t, 4, 3, 1);
        phrase(t, 5, 0, 0);
        phrase(t, 6, 3, 1);
        phrase(t, 7, 0, 0);
        Check.due("read", Check.read(t, "red x red 1 red", 0), 5);
        phrase(t, 0, 3, 1);
        phrase(t, 1, 0, 0);
        phrase(t, 2, 3, 1);
        phrase(t, 4, 3, 1);
        Check.due("read", Check.read(t, "red red red red", 0), 4);
        phrase(t, 0, 3, 4);
        phrase(t, 3, 3, 1);
        Check.join(t, "redlamp", red, lamp);
        Check.due("read", Check.read(t, "redlamp", 0), 2);
        phrase(t, 0, 1, 2);
    }

    private static void phrasesOfKinds() {
        for (int kinds = 0; kinds <= 63; kinds++) {
            WordTables t = new WordTables(6);
            int any = Check.word(t, "any", 0, kinds);
            int lamp = Check.word(t, "lamp", 0, Check.NOUN);
            t.thing();
            t.means(0, any, Check.NONE);
            t.means(0, lamp, Check.NONE);
            Check.read(t, "any lamp any", 0);
            boolean names = (kinds & (Check.NOUN | Check.ADJECTIVE | Check.PRONOUN)) != 0;
            Check.due("meant with kinds " + kinds, t.meant(0), 1);
            phrase(t, 0, names ? 1 : 0, names ? 3 : 0);
            phrase(t, 1, 1, names ? 2 : 1);
        }
    }

    private static void phrasesRefuse() {
        WordTables t = new WordTables(6);
        Check.due("no tokens", t.meant(0), Check.UNKNOWN);
        Check.read(t, "a b", 0);
        int[] wrong = {-1, 2, 24, Integer.MIN_VALUE, Integer.MAX_VALUE};
        for (int i : wrong) {
            Check.due("meant(" + i + ")", t.meant(i), Check.UNKNOWN);
            phrase(t, i, Check.UNKNOWN, Check.UNKNOWN);
        }
    }
}
