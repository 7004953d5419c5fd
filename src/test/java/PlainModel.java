import java.util.ArrayList;
import java.util.List;
import java.util.regex.Matcher;
import java.util.regex.Pattern;

/** The document a second time, with texts, lists and patterns of the library, to be held against the class. */
final class PlainModel {
    private static final String LETTER = "[A-Za-z\\x80-\\x9f]";
    private static final Pattern TIME = Pattern.compile("^([0-9]{1,2}):([0-9]{2})(?![0-9])");
    private static final Pattern HALF = Pattern.compile("^[ap]m(?!" + LETTER + ")");
    private static final Pattern CUTS = Pattern.compile(
            "^(?:(?<letters>" + LETTER + "+)|(?<digits>[0-9]+)|(?<quoted>\"[^\"]*\")|(?<open>\"[^\"]*)"
            + "|(?<mark>[.,;!?])|(?<other>[^A-Za-z\\x80-\\x9f0-9 \".,;!?]+))", Pattern.DOTALL);

    private static final class Entry {
        String text;
        int language;
        int kinds;
        int value;
        int pluralOf = -1;
        int refers;
    }

    private record Joined(String text, int first, int second) {
    }

    private record Cut(int sort, int place, String text, int number) {
    }

    private record Meaning(int thing, int word, int flag) {
    }

    private final int cut;
    private final char[] fold = new char[256];
    private String draft = "";
    private String line = "";
    private final List<Entry> words = new ArrayList<>();
    private final List<Joined> joins = new ArrayList<>();
    private List<Cut> tokens = new ArrayList<>();
    private int things = 0;
    private final List<Meaning> meanings = new ArrayList<>();
    private final boolean[] up = new boolean[8];

    PlainModel(int cut) {
        this.cut = cut < 1 ? 1 : cut > 12 ? 12 : cut;
        for (int c = 0; c < 256; c++) {
            fold[c] = c >= 65 && c <= 90 ? (char) (c + 32) : (char) c;
        }
    }

    private String folded(String text) {
        StringBuilder out = new StringBuilder();
        for (char c : text.toCharArray()) {
            out.append(fold[c]);
        }
        return out.toString();
    }

    private String key(String text) {
        String all = folded(text);
        return all.length() > cut ? all.substring(0, cut) : all;
    }

    private boolean isWord(int w) {
        return w >= 0 && w < words.size();
    }

    private boolean isToken(int i) {
        return i >= 0 && i < tokens.size();
    }

    private int find(int language, String text) {
        for (Entry e : words) {
            if (e.language == language && key(e.text).equals(key(text))) {
                return words.indexOf(e);
            }
        }
        return -1;
    }

    int fold(int from, int to) {
        if (from < 128 || from > 159 || to < 97 || to > 122) {
            return -3;
        }
        if (!words.isEmpty() || !joins.isEmpty()) {
            return -4;
        }
        int before = fold[from];
        fold[from] = (char) to;
        return before;
    }

    int letter(int c) {
        if (c < 0 || c > 255 || !String.valueOf((char) c).matches(LETTER)) {
            return -3;
        }
        if (draft.length() == 20) {
            return -5;
        }
        draft += (char) c;
        return draft.length();
    }

    int word(int language, int kinds) {
        if (language < 0 || language > 2 || (kinds & ~63) != 0) {
            return -3;
        }
        if (draft.isEmpty()) {
            return -4;
        }
        int found = find(language, draft);
        if (found < 0) {
            if (words.size() == 40) {
                return -5;
            }
            Entry e = new Entry();
            e.text = draft;
            e.language = language;
            words.add(e);
            found = words.size() - 1;
        }
        words.get(found).kinds |= kinds;
        draft = "";
        return found;
    }

    int value(int word, int v) {
        if (!isWord(word)) {
            return -2;
        }
        if (v < 0 || v > 1000) {
            return -3;
        }
        Entry e = words.get(word);
        if ((e.kinds >> 5 & 1) == 0) {
            return -4;
        }
        int before = e.value;
        e.value = v;
        return before;
    }

    int plural(int word, int of) {
        if (!isWord(word) || !(of == -1 || isWord(of))) {
            return -2;
        }
        if (word == of) {
            return -4;
        }
        int before = words.get(word).pluralOf;
        words.get(word).pluralOf = of;
        return before;
    }

    int join(int first, int second) {
        if (!isWord(first) || !isWord(second)) {
            return -2;
        }
        if (draft.isEmpty()) {
            return -4;
        }
        if (joins.size() == 8) {
            return -5;
        }
        joins.add(new Joined(draft, first, second));
        draft = "";
        return joins.size();
    }

    int type(int c) {
        if (c < 0 || c > 255) {
            return -3;
        }
        if (line.length() == 80) {
            return -5;
        }
        line += (char) c;
        return line.length();
    }

    int read(int language) {
        String all = line;
        line = "";
        if (language < 0 || language > 2) {
            return -3;
        }
        List<Cut> cuts = new ArrayList<>();
        int place = 0;
        while (place < all.length()) {
            place += all.charAt(place) == ' ' ? 1 : cutOne(cuts, all.substring(place), place, language);
        }
        if (cuts.size() > 24) {
            return -5;
        }
        tokens = cuts;
        return cuts.size();
    }

    private int cutOne(List<Cut> cuts, String rest, int place, int language) {
        Matcher m = CUTS.matcher(rest);
        if (!m.find()) {
            throw new IllegalStateException("nothing begins at " + place);
        }
        String text = m.group();
        if (m.group("letters") != null) {
            cutWord(cuts, text, place, language);
        } else if (m.group("digits") != null) {
            text = cutNumber(cuts, text, rest, place);
        } else if (m.group("quoted") != null) {
            cuts.add(new Cut(4, place, text, text.length() - 2));
        } else if (m.group("mark") != null) {
            cuts.add(new Cut(5, place, text, text.charAt(0)));
        } else {
            cuts.add(new Cut(6, place, text, -1));
        }
        return text.length();
    }

    private void cutWord(List<Cut> cuts, String text, int place, int language) {
        int found = find(language, text);
        if (found < 0) {
            found = find(0, text);
        }
        if (found >= 0) {
            cuts.add(new Cut(0, place, text, found));
            return;
        }
        for (Joined j : joins) {
            if (key(j.text).equals(key(text))) {
                cuts.add(new Cut(0, place, text, j.first));
                cuts.add(new Cut(0, place, text, j.second));
                return;
            }
        }
        cuts.add(new Cut(1, place, text, -1));
    }

    private String cutNumber(List<Cut> cuts, String digits, String rest, int place) {
        Matcher m = TIME.matcher(rest);
        if (m.find() && Integer.parseInt(m.group(1)) < 24 && Integer.parseInt(m.group(2)) < 60) {
            int hour = Integer.parseInt(m.group(1));
            String text = m.group();
            String behind = folded(rest.substring(text.length()));
            boolean halved = HALF.matcher(behind).find();
            if (halved && hour >= 1 && hour <= 12) {
                text = rest.substring(0, text.length() + 2);
                hour = hour % 12 + (behind.startsWith("p") ? 12 : 0);
            }
            cuts.add(new Cut(3, place, text, hour * 60 + Integer.parseInt(m.group(2))));
            return text;
        }
        java.math.BigInteger n = new java.math.BigInteger(digits);
        boolean small = n.compareTo(java.math.BigInteger.valueOf(30000)) <= 0;
        cuts.add(new Cut(small ? 2 : 6, place, digits, small ? n.intValue() : -1));
        return digits;
    }

    int token(int i, int what) {
        if (!isToken(i) || what < 0 || what > 4) {
            return -2;
        }
        Cut c = tokens.get(i);
        int kinds = c.sort == 0 ? words.get(c.number).kinds : 0;
        return new int[] {c.sort, c.place, c.text.length(), c.number, kinds}[what];
    }

    int at(int i, int k) {
        return isToken(i) && k >= 0 && k < tokens.get(i).text.length() ? tokens.get(i).text.charAt(k) : -2;
    }

    /** The values of the number words from a token on. */
    private List<Integer> valuesFrom(int i) {
        List<Integer> values = new ArrayList<>();
        for (int k = i; k < tokens.size(); k++) {
            Cut c = tokens.get(k);
            if (c.sort != 0 || (words.get(c.number).kinds & 32) == 0) {
                break;
            }
            values.add(words.get(c.number).value);
        }
        return values;
    }

    /** The amount and its length, null where none begins. */
    private int[] amountFrom(int i) {
        if (tokens.get(i).sort == 2) {
            return new int[] {tokens.get(i).number, 1};
        }
        List<Integer> values = valuesFrom(i);
        if (values.isEmpty()) {
            return null;
        }
        int part = values.get(0);
        int rest = 0;
        int length = 1;
        for (int v : values.subList(1, values.size())) {
            boolean hundred = v == 100 && 1 <= part && part <= 9;
            boolean thousand = v == 1000 && 1 <= part && part <= 999 && rest == 0;
            boolean below = 1 <= v && v <= 99 && (part > 0 && part % 100 == 0 || part == 0 && rest > 0);
            boolean unit = 1 <= v && v <= 9 && ("0" + part).matches(".*[2-9]0");
            if (hundred) {
                part *= 100;
            } else if (thousand) {
                rest = part * 1000;
                part = 0;
            } else if (below || unit) {
                part += v;
            } else {
                break;
            }
            length++;
        }
        return new int[] {rest + part, length};
    }

    int amount(int i) {
        return !isToken(i) ? -2 : amountFrom(i) == null ? -4 : amountFrom(i)[0];
    }

    int amountLength(int i) {
        return !isToken(i) ? -2 : amountFrom(i) == null ? 0 : amountFrom(i)[1];
    }

    int thing() {
        return things == 12 ? -5 : things++;
    }

    int means(int thing, int word, int flag) {
        if (thing < 0 || thing >= things || !isWord(word)) {
            return -2;
        }
        if (flag < -1 || flag > 7) {
            return -3;
        }
        if (meanings.size() == 60) {
            return -5;
        }
        meanings.add(new Meaning(thing, word, flag));
        return meanings.size();
    }

    int flag(int flag, boolean isUp) {
        if (flag < 0 || flag > 7) {
            return -3;
        }
        boolean before = up[flag];
        up[flag] = isUp;
        return before ? 1 : 0;
    }

    int refer(int word, int bits) {
        if (!isWord(word)) {
            return -2;
        }
        if ((bits & ~((1 << things) - 1)) != 0) {
            return -3;
        }
        Entry e = words.get(word);
        if ((e.kinds & 16) == 0) {
            return -4;
        }
        int before = e.refers;
        e.refers = bits;
        return before;
    }

    int meant(int i) {
        if (!isToken(i)) {
            return -2;
        }
        Cut c = tokens.get(i);
        if (c.sort != 0) {
            return 0;
        }
        Entry e = words.get(c.number);
        int bits = (e.kinds & 16) != 0 ? e.refers : 0;
        for (Meaning m : meanings) {
            boolean mine = m.word == c.number || e.pluralOf >= 0 && m.word == e.pluralOf;
            if (mine && (m.flag < 0 || up[m.flag])) {
                bits |= 1 << m.thing;
            }
        }
        return bits;
    }

    /** The longest run of naming tokens that share a thing: its things and its length. */
    private int[] phraseFrom(int i) {
        int all = 4095;
        int length = 0;
        while (isToken(i + length) && tokens.get(i + length).sort == 0
                && (token(i + length, 4) & 22) != 0 && (all & meant(i + length)) != 0) {
            all &= meant(i + length);
            length++;
        }
        return new int[] {length == 0 ? 0 : all, length};
    }

    int phrase(int i) {
        return isToken(i) ? phraseFrom(i)[0] : -2;
    }

    int phraseLength(int i) {
        return isToken(i) ? phraseFrom(i)[1] : -2;
    }

    int about(int word, int what) {
        if (!isWord(word) || what < 0 || what > 5) {
            return -2;
        }
        Entry e = words.get(word);
        return new int[] {e.language, e.kinds, e.value, e.pluralOf, e.text.length(), e.refers}[what];
    }

    int equal(int a, int b) {
        return !isWord(a) || !isWord(b) ? -2 : key(words.get(a).text).equals(key(words.get(b).text)) ? 1 : 0;
    }

    int told(int what) {
        int[] counts = {draft.length(), words.size(), joins.size(), line.length(), tokens.size(), things,
            meanings.size()};
        return what < 0 || what > 6 ? -2 : counts[what];
    }
}
