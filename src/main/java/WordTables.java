/**
 * Words that a player types, found in tables: what a typed line comes to, token by token.
 * The document numbers its promises; a method of the face keeps the promise of its name.
 */
public final class WordTables {
    public static final int NONE = -1, UNKNOWN = -2, OUTSIDE = -3, STATE = -4, ROOM = -5;

    private static final int DRAFT_ROOM = 20, WORD_ROOM = 40, JOIN_ROOM = 8;
    private static final int LINE_ROOM = 80, TOKEN_ROOM = 24;
    private static final int THING_ROOM = 12, MEANING_ROOM = 60;

    private static final int LEAST_CUT = 1, MOST_CUT = 12;
    private static final int LANGUAGES = 3, COMMON_LANGUAGE = 0, FLAGS = 8;
    private static final int MOST_KINDS = 63, MOST_VALUE = 1000, MOST_BYTE = 255;

    private static final int NOUN = 2, ADJECTIVE = 4, PRONOUN = 16, NUMBER_WORD = 32;
    private static final int NAMING = NOUN | ADJECTIVE | PRONOUN;

    private static final int SORT_WORD = 0, SORT_STRANGE = 1, SORT_NUMBER = 2, SORT_TIME = 3;
    private static final int SORT_QUOTED = 4, SORT_MARK = 5, SORT_OTHER = 6;

    private final Letters letters;
    private final Row draft;
    private final Vocabulary vocabulary;
    private final Row line;
    private final Cutter cutter;
    private final Things things;
    private final Sum sum;
    private final Common common;
    private Tokens tokens;
    private Tokens spare;

    public WordTables(int cut) {
        letters = new Letters(Math.max(LEAST_CUT, Math.min(MOST_CUT, cut)));
        draft = new Row(DRAFT_ROOM);
        vocabulary = new Vocabulary(letters);
        line = new Row(LINE_ROOM);
        cutter = new Cutter(letters, vocabulary, line);
        things = new Things();
        sum = new Sum();
        common = new Common();
        tokens = new Tokens();
        spare = new Tokens();
    }

    public int fold(int from, int to) {
        if (!Letters.isFoldable(from) || !Letters.isSmall(to)) {
            return OUTSIDE;
        }
        if (vocabulary.wordCount > 0 || vocabulary.joinCount > 0) {
            return STATE;
        }
        int before = letters.folded(from);
        letters.changeFold(from, to);
        return before;
    }

    public int letter(int c) {
        if (!Letters.isLetter(c)) {
            return OUTSIDE;
        }
        if (draft.isFull()) {
            return ROOM;
        }
        draft.put(c);
        return draft.count;
    }

    public int word(int language, int kinds) {
        if (!isLanguage(language) || kinds < 0 || kinds > MOST_KINDS) {
            return OUTSIDE;
        }
        if (draft.count == 0) {
            return STATE;
        }
        int number = vocabulary.likeIn(language, draft, 0, draft.count);
        if (number == NONE) {
            number = vocabulary.addWord(draft, language);
        }
        Word known = vocabulary.known(number);
        if (known == null) {
            return ROOM;
        }
        known.kinds |= kinds;
        draft.clear();
        return number;
    }

    public int value(int word, int v) {
        Word known = vocabulary.known(word);
        if (known == null) {
            return UNKNOWN;
        }
        if (v < 0 || v > MOST_VALUE) {
            return OUTSIDE;
        }
        if (!known.isOneOf(NUMBER_WORD)) {
            return STATE;
        }
        int before = known.worth;
        known.worth = v;
        return before;
    }

    public int plural(int word, int of) {
        Word known = vocabulary.known(word);
        if (known == null || of != NONE && vocabulary.known(of) == null) {
            return UNKNOWN;
        }
        if (word == of) {
            return STATE;
        }
        int before = known.pluralOf;
        known.pluralOf = of;
        return before;
    }

    public int join(int first, int second) {
        if (vocabulary.known(first) == null || vocabulary.known(second) == null) {
            return UNKNOWN;
        }
        if (draft.count == 0) {
            return STATE;
        }
        if (!vocabulary.addJoin(draft, first, second)) {
            return ROOM;
        }
        draft.clear();
        return vocabulary.joinCount;
    }

    public int type(int c) {
        if (c < 0 || c > MOST_BYTE) {
            return OUTSIDE;
        }
        if (line.isFull()) {
            return ROOM;
        }
        line.put(c);
        return line.count;
    }

    public int read(int language) {
        int answer = OUTSIDE;
        if (isLanguage(language)) {
            answer = cutter.cutLine(language, spare) ? takeSpareTokens() : ROOM;
        }
        line.clear();
        return answer;
    }

    public int token(int i, int what) {
        if (!tokens.has(i)) {
            return UNKNOWN;
        }
        switch (what) {
            case 0:
                return tokens.sorts[i];
            case 1:
                return tokens.places[i];
            case 2:
                return tokens.lengths[i];
            case 3:
                return tokens.numbers[i];
            case 4:
                return kindsOf(wordOf(i));
            default:
                return UNKNOWN;
        }
    }

    public int at(int i, int k) {
        if (!tokens.has(i) || k < 0 || k >= tokens.lengths[i]) {
            return UNKNOWN;
        }
        return tokens.text.byteAt(tokens.places[i] + k);
    }

    public int amount(int i) {
        if (!tokens.has(i)) {
            return UNKNOWN;
        }
        sumUpFrom(i);
        return sum.length == 0 ? STATE : sum.rest + sum.part;
    }

    public int amountLength(int i) {
        if (!tokens.has(i)) {
            return UNKNOWN;
        }
        sumUpFrom(i);
        return sum.length;
    }

    public int thing() {
        return things.addThing() ? things.count - 1 : ROOM;
    }

    public int means(int thing, int word, int flag) {
        if (!things.has(thing) || vocabulary.known(word) == null) {
            return UNKNOWN;
        }
        if (flag != NONE && !isFlag(flag)) {
            return OUTSIDE;
        }
        return things.addMeaning(thing, word, flag) ? things.meaningCount : ROOM;
    }

    public int flag(int flag, boolean up) {
        if (!isFlag(flag)) {
            return OUTSIDE;
        }
        int before = things.isUp(flag) ? 1 : 0;
        things.setFlag(flag, up);
        return before;
    }

    public int refer(int word, int things) {
        Word known = vocabulary.known(word);
        if (known == null) {
            return UNKNOWN;
        }
        if (!this.things.areAll(things)) {
            return OUTSIDE;
        }
        if (!known.isOneOf(PRONOUN)) {
            return STATE;
        }
        int before = known.refersTo;
        known.refersTo = things;
        return before;
    }

    public int meant(int i) {
        return tokens.has(i) ? thingsMeantAt(i) : UNKNOWN;
    }

    public int phrase(int i) {
        if (!tokens.has(i)) {
            return UNKNOWN;
        }
        followPhraseFrom(i);
        return common.shared;
    }

    public int phraseLength(int i) {
        if (!tokens.has(i)) {
            return UNKNOWN;
        }
        followPhraseFrom(i);
        return common.length;
    }

    public int about(int word, int what) {
        Word known = vocabulary.known(word);
        if (known == null) {
            return UNKNOWN;
        }
        switch (what) {
            case 0:
                return known.language;
            case 1:
                return known.kinds;
            case 2:
                return known.worth;
            case 3:
                return known.pluralOf;
            case 4:
                return known.spelling.count;
            case 5:
                return known.refersTo;
            default:
                return UNKNOWN;
        }
    }

    public int equal(int a, int b) {
        Word one = vocabulary.known(a);
        Word other = vocabulary.known(b);
        if (one == null || other == null) {
            return UNKNOWN;
        }
        return letters.areLike(one.spelling, other.spelling, 0, other.spelling.count) ? 1 : 0;
    }

    public int told(int what) {
        switch (what) {
            case 0:
                return draft.count;
            case 1:
                return vocabulary.wordCount;
            case 2:
                return vocabulary.joinCount;
            case 3:
                return line.count;
            case 4:
                return tokens.count;
            case 5:
                return things.count;
            case 6:
                return things.meaningCount;
            default:
                return UNKNOWN;
        }
    }

    private static boolean isLanguage(int language) {
        return language >= 0 && language < LANGUAGES;
    }

    private static boolean isFlag(int flag) {
        return flag >= 0 && flag < FLAGS;
    }

    /** The old tokens become the next spare ones, so that no read makes new rows. */
    private int takeSpareTokens() {
        Tokens before = tokens;
        tokens = spare;
        spare = before;
        return tokens.count;
    }

    /** The word of a token, or null where the token is of another sort. */
    private Word wordOf(int i) {
        if (!tokens.has(i) || tokens.sorts[i] != SORT_WORD) {
            return null;
        }
        return vocabulary.known(tokens.numbers[i]);
    }

    private static int kindsOf(Word word) {
        return word == null ? 0 : word.kinds;
    }

    private void sumUpFrom(int i) {
        sum.clear();
        if (!tokens.has(i)) {
            return;
        }
        if (tokens.sorts[i] == SORT_NUMBER) {
            sum.begin(tokens.numbers[i]);
            return;
        }
        boolean goesOn = true;
        for (int k = i; k < tokens.count && goesOn; k++) {
            Word next = wordOf(k);
            goesOn = next != null && next.isOneOf(NUMBER_WORD) && sum.accept(next.worth);
        }
    }

    private int thingsMeantAt(int i) {
        Word word = wordOf(i);
        if (word == null) {
            return 0;
        }
        int bits = things.meantBy(tokens.numbers[i]);
        if (word.pluralOf != NONE) {
            bits |= things.meantBy(word.pluralOf);
        }
        if (word.isOneOf(PRONOUN)) {
            bits |= word.refersTo;
        }
        return bits;
    }

    private void followPhraseFrom(int i) {
        common.clear();
        boolean goesOn = true;
        for (int k = i; k < tokens.count && goesOn; k++) {
            Word next = wordOf(k);
            goesOn = next != null && next.isOneOf(NAMING) && common.accept(thingsMeantAt(k));
        }
    }

    /** Which bytes are letters, what each is folded, and how many of them count. */
    private static final class Letters {
        private static final int FIRST_FOLDABLE = 128, LAST_FOLDABLE = 159;

        final int cut;
        final int[] folds;

        Letters(int cut) {
            this.cut = cut;
            folds = new int[LAST_FOLDABLE - FIRST_FOLDABLE + 1];
            for (int k = 0; k < folds.length; k++) {
                folds[k] = FIRST_FOLDABLE + k;
            }
        }

        static boolean isSmall(int c) {
            return c >= 'a' && c <= 'z';
        }

        static boolean isFoldable(int c) {
            return c >= FIRST_FOLDABLE && c <= LAST_FOLDABLE;
        }

        static boolean isLetter(int c) {
            return c >= 'A' && c <= 'Z' || isSmall(c) || isFoldable(c);
        }

        /** What is no letter comes back as it is, so that a place past the line's end may be asked for. */
        int folded(int c) {
            int slot = c - FIRST_FOLDABLE;
            if (slot >= 0 && slot < folds.length) {
                return folds[slot];
            }
            return c >= 'A' && c <= 'Z' ? c - 'A' + 'a' : c;
        }

        void changeFold(int from, int to) {
            int slot = from - FIRST_FOLDABLE;
            if (slot >= 0 && slot < folds.length) {
                folds[slot] = to;
            }
        }

        boolean areLike(Row known, Row text, int from, int length) {
            int counted = Math.min(known.count, cut);
            if (counted != Math.min(length, cut)) {
                return false;
            }
            for (int k = 0; k < counted; k++) {
                if (folded(known.byteAt(k)) != folded(text.byteAt(from + k))) {
                    return false;
                }
            }
            return true;
        }
    }

    /** A row of bytes that has an end: beyond its room it takes none. */
    private static final class Row {
        final int[] bytes;
        int count;

        Row(int room) {
            bytes = new int[Math.max(0, room)];
        }

        boolean isFull() {
            return count >= bytes.length;
        }

        void put(int c) {
            if (count >= 0 && count < bytes.length) {
                bytes[count] = c;
                count++;
            }
        }

        /** NONE, which is no byte, stands before and behind the row: whoever looks ahead finds an end there. */
        int byteAt(int k) {
            return k >= 0 && k < count && k < bytes.length ? bytes[k] : NONE;
        }

        void clear() {
            count = 0;
        }

        void copyFrom(Row other) {
            clear();
            for (int k = 0; k < other.count; k++) {
                put(other.byteAt(k));
            }
        }
    }

    private static final class Word {
        final Row spelling;
        final int language;
        int kinds;
        int worth;
        int pluralOf;
        int refersTo;

        Word(Row draft, int language) {
            spelling = new Row(draft.count);
            spelling.copyFrom(draft);
            this.language = language;
            pluralOf = NONE;
        }

        boolean isOneOf(int asked) {
            return (kinds & asked) != 0;
        }
    }

    private static final class Join {
        final Row spelling;
        final int first;
        final int second;

        Join(Row draft, int first, int second) {
            spelling = new Row(draft.count);
            spelling.copyFrom(draft);
            this.first = first;
            this.second = second;
        }
    }

    private static final class Vocabulary {
        final Letters letters;
        final Word[] words;
        final Join[] joins;
        int wordCount;
        int joinCount;

        Vocabulary(Letters letters) {
            this.letters = letters;
            words = new Word[WORD_ROOM];
            joins = new Join[JOIN_ROOM];
        }

        Word known(int number) {
            return number >= 0 && number < wordCount && number < words.length ? words[number] : null;
        }

        int likeIn(int language, Row text, int from, int length) {
            for (int n = 0; n < wordCount; n++) {
                Word word = known(n);
                if (word != null && word.language == language
                        && letters.areLike(word.spelling, text, from, length)) {
                    return n;
                }
            }
            return NONE;
        }

        Join joinLike(Row text, int from, int length) {
            for (int n = 0; n < joinCount && n < joins.length; n++) {
                Join join = joins[n];
                if (join != null && letters.areLike(join.spelling, text, from, length)) {
                    return join;
                }
            }
            return null;
        }

        /** The new word's number, NONE where there is no room. */
        int addWord(Row draft, int language) {
            if (wordCount < 0 || wordCount >= words.length) {
                return NONE;
            }
            words[wordCount] = new Word(draft, language);
            wordCount++;
            return wordCount - 1;
        }

        boolean addJoin(Row draft, int first, int second) {
            if (joinCount < 0 || joinCount >= joins.length) {
                return false;
            }
            joins[joinCount] = new Join(draft, first, second);
            joinCount++;
            return true;
        }
    }

    /** What a line came to, with the line itself: that is emptied and typed anew while these stay. */
    private static final class Tokens {
        final Row text;
        final int[] sorts;
        final int[] places;
        final int[] lengths;
        final int[] numbers;
        int count;
        boolean tooMany;

        Tokens() {
            text = new Row(LINE_ROOM);
            sorts = new int[TOKEN_ROOM];
            places = new int[TOKEN_ROOM];
            lengths = new int[TOKEN_ROOM];
            numbers = new int[TOKEN_ROOM];
        }

        boolean has(int i) {
            return i >= 0 && i < count && i < TOKEN_ROOM;
        }

        void startOn(Row line) {
            text.copyFrom(line);
            count = 0;
            tooMany = false;
        }

        void add(int sort, int place, int length, int number) {
            if (count < 0 || count >= TOKEN_ROOM) {
                tooMany = true;
                return;
            }
            sorts[count] = sort;
            places[count] = place;
            lengths[count] = length;
            numbers[count] = number;
            count++;
        }
    }

    /** Cuts the line into tokens; each cut adds what begins at a place and tells the place behind it. */
    private static final class Cutter {
        private static final int BLANK = 32, QUOTE = 34, COLON = 58;
        private static final int MOST_HOUR = 23, MOST_MINUTE = 59, HALF_DAY = 12, MOST_NUMBER = 30000;

        final Letters letters;
        final Vocabulary vocabulary;
        final Row line;
        Tokens into;
        int language;

        Cutter(Letters letters, Vocabulary vocabulary, Row line) {
            this.letters = letters;
            this.vocabulary = vocabulary;
            this.line = line;
        }

        /** Whether there was room for all tokens. */
        boolean cutLine(int inLanguage, Tokens fresh) {
            language = inLanguage;
            into = fresh;
            fresh.startOn(line);
            int place = 0;
            for (int step = 0; step < LINE_ROOM && place < line.count; step++) {
                place = cutAt(place);
            }
            return !fresh.tooMany;
        }

        private int cutAt(int place) {
            int c = line.byteAt(place);
            if (c == BLANK) {
                return place + 1;
            }
            if (Letters.isLetter(c)) {
                return cutLetters(place);
            }
            if (isDigit(c)) {
                return cutDigits(place);
            }
            if (c == QUOTE) {
                return cutQuoted(place);
            }
            return isMark(c) ? addUpTo(place + 1, SORT_MARK, place, c) : cutOther(place);
        }

        private int addUpTo(int end, int sort, int place, int number) {
            if (into != null) {
                into.add(sort, place, end - place, number);
            }
            return end;
        }

        private int cutLetters(int place) {
            int end = place;
            while (end < line.count && Letters.isLetter(line.byteAt(end))) {
                end++;
            }
            int number = vocabulary.likeIn(language, line, place, end - place);
            if (number == NONE) {
                number = vocabulary.likeIn(COMMON_LANGUAGE, line, place, end - place);
            }
            if (number != NONE) {
                return addUpTo(end, SORT_WORD, place, number);
            }
            Join join = vocabulary.joinLike(line, place, end - place);
            if (join == null) {
                return addUpTo(end, SORT_STRANGE, place, NONE);
            }
            addUpTo(end, SORT_WORD, place, join.first);
            return addUpTo(end, SORT_WORD, place, join.second);
        }

        private int cutDigits(int place) {
            int end = endOfDigits(place);
            if (isTime(place, end)) {
                return cutTime(place, end);
            }
            int number = numberOf(place, end);
            if (number > MOST_NUMBER) {
                return addUpTo(end, SORT_OTHER, place, NONE);
            }
            return addUpTo(end, SORT_NUMBER, place, number);
        }

        private boolean isTime(int place, int colon) {
            return colon - place <= 2 && line.byteAt(colon) == COLON
                    && endOfDigits(colon + 1) == colon + 3
                    && numberOf(place, colon) <= MOST_HOUR
                    && numberOf(colon + 1, colon + 3) <= MOST_MINUTE;
        }

        private int cutTime(int place, int colon) {
            int hour = numberOf(place, colon);
            int minute = numberOf(colon + 1, colon + 3);
            int end = colon + 3;
            if (hour >= 1 && hour <= HALF_DAY && isHalfOfDay(end)) {
                hour = hour == HALF_DAY ? 0 : hour;
                hour += letters.folded(line.byteAt(end)) == 'p' ? HALF_DAY : 0;
                end += 2;
            }
            return addUpTo(end, SORT_TIME, place, 60 * hour + minute);
        }

        private boolean isHalfOfDay(int place) {
            int half = letters.folded(line.byteAt(place));
            return (half == 'a' || half == 'p')
                    && letters.folded(line.byteAt(place + 1)) == 'm'
                    && !Letters.isLetter(line.byteAt(place + 2));
        }

        private int cutQuoted(int place) {
            int end = place + 1;
            while (end < line.count && line.byteAt(end) != QUOTE) {
                end++;
            }
            if (end >= line.count) {
                return addUpTo(end, SORT_OTHER, place, NONE);
            }
            return addUpTo(end + 1, SORT_QUOTED, place, end - place - 1);
        }

        private int cutOther(int place) {
            int end = place + 1;
            while (end < line.count && isOther(line.byteAt(end))) {
                end++;
            }
            return addUpTo(end, SORT_OTHER, place, NONE);
        }

        private int endOfDigits(int place) {
            int end = place;
            while (end < line.count && isDigit(line.byteAt(end))) {
                end++;
            }
            return end;
        }

        /** Stops growing just above the greatest number that counts: a line of digits would wrap around. */
        private int numberOf(int from, int to) {
            int number = 0;
            for (int k = from; k < to; k++) {
                number = Math.min(10 * number + line.byteAt(k) - '0', MOST_NUMBER + 1);
            }
            return number;
        }

        private static boolean isDigit(int c) {
            return c >= '0' && c <= '9';
        }

        private static boolean isMark(int c) {
            return c == '.' || c == ',' || c == ';' || c == '!' || c == '?';
        }

        private static boolean isOther(int c) {
            return c != BLANK && c != QUOTE && !isMark(c) && !isDigit(c) && !Letters.isLetter(c);
        }
    }

    /** An amount of number words while it grows: the rest is its thousands, the part what stands behind them. */
    private static final class Sum {
        int rest;
        int part;
        int length;

        void clear() {
            rest = 0;
            part = 0;
            length = 0;
        }

        void begin(int v) {
            rest = 0;
            part = v;
            length = 1;
        }

        /** Whether a number word belongs to the amount; it is in it then. */
        boolean accept(int v) {
            if (length == 0) {
                begin(v);
                return true;
            }
            if (v == 100 && part >= 1 && part <= 9) {
                part = 100 * part;
            } else if (v == 1000 && part >= 1 && part <= 999 && rest == 0) {
                rest = 1000 * part;
                part = 0;
            } else if (fitsBelowHundred(v) || fitsBelowTen(v)) {
                part += v;
            } else {
                return false;
            }
            length++;
            return true;
        }

        private boolean fitsBelowHundred(int v) {
            boolean open = part > 0 ? part % 100 == 0 : part == 0 && rest != 0;
            return v >= 1 && v <= 99 && open;
        }

        private boolean fitsBelowTen(int v) {
            int figures = part % 100;
            return v >= 1 && v <= 9 && figures >= 20 && figures % 10 == 0;
        }
    }

    /** The things that all tokens of a phrase mean, while it grows. */
    private static final class Common {
        int shared;
        int length;

        void clear() {
            shared = 0;
            length = 0;
        }

        /** Whether some thing is still meant by all; the token belongs to the phrase then. */
        boolean accept(int bits) {
            int both = length == 0 ? bits : shared & bits;
            if (both == 0) {
                return false;
            }
            shared = both;
            length++;
            return true;
        }
    }

    private static final class Things {
        final int[] meaningThings;
        final int[] meaningWords;
        final int[] meaningFlags;
        int count;
        int meaningCount;
        int flagsUp;

        Things() {
            meaningThings = new int[MEANING_ROOM];
            meaningWords = new int[MEANING_ROOM];
            meaningFlags = new int[MEANING_ROOM];
        }

        boolean has(int number) {
            return number >= 0 && number < count;
        }

        boolean areAll(int bits) {
            return bits >>> count == 0;
        }

        boolean addThing() {
            if (count >= THING_ROOM) {
                return false;
            }
            count++;
            return true;
        }

        boolean addMeaning(int number, int word, int flag) {
            if (meaningCount < 0 || meaningCount >= MEANING_ROOM) {
                return false;
            }
            meaningThings[meaningCount] = number;
            meaningWords[meaningCount] = word;
            meaningFlags[meaningCount] = flag;
            meaningCount++;
            return true;
        }

        boolean isUp(int flag) {
            return (flagsUp >>> flag & 1) == 1;
        }

        void setFlag(int flag, boolean up) {
            int bit = 1 << flag;
            flagsUp = up ? flagsUp | bit : flagsUp & ~bit;
        }

        int meantBy(int word) {
            int bits = 0;
            for (int m = 0; m < meaningCount && m < MEANING_ROOM; m++) {
                boolean holds = meaningFlags[m] == NONE || isUp(meaningFlags[m]);
                if (meaningWords[m] == word && holds) {
                    bits |= 1 << meaningThings[m];
                }
            }
            return bits;
        }
    }
}
