/** The boundaries that the document names of AN AMOUNT: part 2, promises 12 and 13; each method holds one. */
public final class AmountEdgesTest {
    /** An object is used for at most so many calls. */
    private static final int CALLS = 512;
    private static final int[] EDGES = {0, 1, 2, 9, 10, 11, 19, 20, 21, 29, 30, 89, 90, 91, 98, 99, 100, 101, 109, 110,
        111, 119, 120, 121, 190, 191, 199, 200, 201, 220, 900, 901, 910, 920, 990, 998, 999, 1000};

    private WordTables t;
    private int calls;

    public static void main(String[] args) {
        beginsAtANumber();
        beginsAtANumberWord();
        noneBegins();
        new AmountEdgesTest().hundred();
        new AmountEdgesTest().thousand();
        new AmountEdgesTest().thousandOnce();
        new AmountEdgesTest().belowHundred();
        new AmountEdgesTest().belowHundredBehindThousand();
        new AmountEdgesTest().belowTen();
        new AmountEdgesTest().allPairs();
        new AmountEdgesTest().allTriplesOfEdges();
        new AmountEdgesTest().firstThatDoesNotBelong();
        greatestAmounts();
        whatStandsBetween();
        ofTheFirstAndTheLastToken();
        Check.end();
    }

    private static void beginsAtANumber() {
        Check.sentence("AN AMOUNT begins at a TOKEN of SORT 2 (its number)");
        WordTables t = new WordTables(12);
        Check.number(t, "hundred", 100);
        Check.due("read", Check.read(t, "0 30000 30001 5 hundred 7", 0), 6);
        int[] amounts = {0, 30000, Check.STATE, 5, 100, 7};
        int[] lengths = {1, 1, 0, 1, 1, 1};
        for (int i = 0; i < 6; i++) {
            Check.due("amount(" + i + ")", t.amount(i), amounts[i]);
        }
        for (int i = 0; i < 6; i++) {
            Check.due("amountLength(" + i + ")", t.amountLength(i), lengths[i]);
        }
    }

    private static void beginsAtANumberWord() {
        Check.sentence("or a number word .. it is the first one's VALUE");
        for (int kinds = 0; kinds <= 63; kinds++) {
            WordTables t = new WordTables(12);
            Check.word(t, "a", 0, kinds);
            t.value(0, 1000);
            Check.read(t, "a", 0);
            boolean number = kinds >= 32;
            Check.due("kinds " + kinds, t.amount(0), number ? 1000 : Check.STATE);
            Check.due("kinds " + kinds, t.amountLength(0), number ? 1 : 0);
        }
        WordTables t = new WordTables(12);
        Check.word(t, "a", 0, Check.NUMBER);
        Check.read(t, "a", 0);
        Check.due("a VALUE that is 0 at first", t.amount(0), 0);
        Check.due("its length", t.amountLength(0), 1);
    }

    private static void noneBegins() {
        Check.sentence("STATE: none begins there. / 0: none begins there.");
        WordTables t = new WordTables(12);
        Check.word(t, "go", 0, 31);
        Check.number(t, "one", 1);
        Check.due("read", Check.read(t, "go zz 1:30 \"1\" . # 99999 \"", 0), 8);
        for (int i = 0; i < 8; i++) {
            Check.due("amount(" + i + ")", t.amount(i), Check.STATE);
            Check.due("amountLength(" + i + ")", t.amountLength(i), 0);
        }
    }

    /** Number words with these VALUES, one behind the other, come to an amount of so many tokens. */
    private void sum(int amount, int length, int... values) {
        int needed = 3 * values.length + 3;
        if (t == null || calls + needed > CALLS) {
            t = new WordTables(12);
            for (int k = 0; k < 5; k++) {
                Check.word(t, "" + (char) ('a' + k), 0, Check.NUMBER);
            }
            calls = 10;
        }
        StringBuilder name = new StringBuilder("of");
        for (int k = 0; k < values.length; k++) {
            t.value(k, values[k]);
            name.append(' ').append(values[k]);
        }
        Check.due("read", Check.read(t, "abcde".substring(0, values.length).replaceAll("(.)", "$1 "), 0), values.length);
        Check.due("amount " + name, t.amount(0), amount);
        Check.due("length " + name, t.amountLength(0), length);
        calls += needed;
    }

    private void hundred() {
        Check.sentence("v is 100, and the PART 1 .. 9: the PART is 100 times that");
        sum(0, 1, 0, 100);
        for (int part = 1; part <= 9; part++) {
            sum(100 * part, 2, part, 100);
            sum(100 * part, 2, part, 100, 100);
            sum(part, 1, part, 99);
            sum(part, 1, part, 101);
            sum(1000 + 100 * part, 4, 1, 1000, part, 100);
        }
        sum(10, 1, 10, 100);
        sum(11, 1, 11, 100);
        sum(100, 1, 100, 100);
        sum(1000, 1, 1000, 100);
        sum(1000, 2, 1, 1000, 100);
        sum(1010, 3, 1, 1000, 10, 100);
    }

    private void thousand() {
        Check.sentence("v is 1000, and the PART 1 .. 999, .. the rest is 1000 times the PART, the PART 0");
        sum(0, 1, 0, 1000);
        for (int part = 1; part <= 999; part++) {
            sum(1000 * part, 2, part, 1000);
        }
        sum(1000, 1, 1000, 1000);
        sum(1001, 2, 1000, 1, 1000);
        sum(999, 1, 999, 999);
        sum(999000, 4, 900, 90, 9, 1000);
    }

    private void thousandOnce() {
        Check.sentence("v is 1000, .. and the rest 0");
        sum(1000, 2, 1, 1000, 1000);
        sum(1001, 3, 1, 1000, 1, 1000);
        sum(999099, 3, 999, 1000, 99, 1000);
        sum(1100, 4, 1, 1000, 1, 100, 1000);
    }

    private void belowHundred() {
        Check.sentence("v is 1 .. 99, and the PART a multiple of 100 above 0: v is added to the PART");
        for (int part = 0; part <= 1000; part += 100) {
            sum(part, 1, part, 0);
            for (int v = 1; v <= 99; v++) {
                sum(part == 0 ? 0 : part + v, part == 0 ? 1 : 2, part, v);
            }
            if (part >= 100) {
                sum(part, 1, part, 100);
                sum(part, 1, part, 101);
                sum(part - 1, 1, part - 1, 10);
            }
        }
        sum(101, 1, 101, 1);
        sum(101, 1, 101, 99);
        sum(150, 1, 150, 10);
        sum(110, 1, 110, 9);
    }

    private void belowHundredBehindThousand() {
        Check.sentence("or the PART is 0 and the rest is not");
        sum(1000, 2, 1, 1000, 0);
        for (int v = 1; v <= 99; v++) {
            sum(1000 + v, 3, 1, 1000, v);
            sum(0, 1, 0, v);
        }
        sum(1000, 2, 1, 1000, 100);
        sum(1000, 2, 1, 1000, 101);
        sum(1000, 2, 1, 1000, 999);
        sum(1010, 3, 1, 1000, 10, 1);
        sum(1021, 4, 1, 1000, 20, 1);
    }

    private void belowTen() {
        Check.sentence("v is 1 .. 9, and the PART ends in 20, 30, .. 90 (by its last two figures)");
        for (int hundreds = 0; hundreds <= 900; hundreds += 100) {
            for (int figures = 1; figures <= 99; figures++) {
                int part = hundreds + figures;
                boolean open = figures >= 20 && figures % 10 == 0;
                for (int v : new int[] {0, 1, 9, 10, 11}) {
                    boolean belongs = open && v >= 1 && v <= 9;
                    sum(belongs ? part + v : part, belongs ? 2 : 1, part, v);
                }
            }
        }
        sum(29, 2, 20, 9, 9);
        sum(991, 2, 990, 1, 1);
    }

    /** The rules once more, for any PART and rest: whether v belongs, and what both are then. */
    private static boolean belongs(int[] restAndPart, int v) {
        int rest = restAndPart[0];
        int part = restAndPart[1];
        if (v == 100 && part >= 1 && part <= 9) {
            restAndPart[1] = 100 * part;
            return true;
        }
        if (v == 1000 && part >= 1 && part <= 999 && rest == 0) {
            restAndPart[0] = 1000 * part;
            restAndPart[1] = 0;
            return true;
        }
        boolean hundreds = part > 0 && part % 100 == 0;
        boolean thousands = part == 0 && rest != 0;
        boolean tens = part % 10 == 0 && part % 100 / 10 >= 2;
        if (v >= 1 && v <= 99 && (hundreds || thousands) || v >= 1 && v <= 9 && tens) {
            restAndPart[1] = part + v;
            return true;
        }
        return false;
    }

    private void sumByTheRules(int... values) {
        int[] restAndPart = {0, values[0]};
        int length = 1;
        while (length < values.length && belongs(restAndPart, values[length])) {
            length++;
        }
        sum(restAndPart[0] + restAndPart[1], length, values);
    }

    private void allPairs() {
        Check.sentence("each next one with VALUE v belongs to it, if (every first VALUE)");
        for (int part = 0; part <= 1000; part++) {
            for (int v : EDGES) {
                sumByTheRules(part, v);
            }
        }
        for (int v = 0; v <= 1000; v++) {
            for (int part : EDGES) {
                sumByTheRules(part, v);
                sumByTheRules(part, 1000, v);
            }
        }
    }

    private void allTriplesOfEdges() {
        Check.sentence("each next one with VALUE v belongs to it, if (several next ones)");
        for (int a : EDGES) {
            for (int b : EDGES) {
                for (int c : EDGES) {
                    sumByTheRules(a, b, c);
                    sumByTheRules(9, 1000, a, b, c);
                }
            }
        }
    }

    private void firstThatDoesNotBelong() {
        Check.sentence("The first one that does not belong to it ends it.");
        sum(20, 1, 20, 20, 5);
        sum(5, 1, 5, 0, 100);
        sum(20, 1, 20, 0, 5);
        sum(100, 1, 100, 999, 5);
        sum(5, 1, 5, 5, 100);
        sum(1000, 2, 1, 1000, 1000, 5);
    }

    private static void greatestAmounts() {
        Check.sentence("It is the rest and the PART. (as great as it can be)");
        WordTables t = new WordTables(12);
        String[] names = {"nine", "hundred", "ninety", "thousand", "all"};
        int[] values = {9, 100, 90, 1000, 999};
        for (int k = 0; k < names.length; k++) {
            Check.number(t, names[k], values[k]);
        }
        Check.read(t, "nine hundred ninety nine thousand nine hundred ninety nine nine", 0);
        Check.due("amount", t.amount(0), 999999);
        Check.due("its length", t.amountLength(0), 9);
        Check.due("within it", t.amount(4), 1009);
        Check.due("its length", t.amountLength(4), 2);
        Check.due("the last", t.amount(9), 9);
        Check.read(t, "all thousand all", 0);
        Check.due("amount", t.amount(0), 999000);
        Check.due("its length", t.amountLength(0), 2);
    }

    private static void whatStandsBetween() {
        Check.sentence("Of number words one behind the other");
        String[] between = {".", "zz", "7", "1:30", "\"\"", "#", "go", "99999"};
        for (String other : between) {
            WordTables t = new WordTables(12);
            Check.number(t, "five", 5);
            Check.number(t, "hundred", 100);
            Check.word(t, "go", 0, 31);
            Check.due("read", Check.read(t, "five " + other + " hundred", 0), 3);
            Check.due("up to " + other, t.amount(0), 5);
            Check.due("its length", t.amountLength(0), 1);
            Check.due("behind " + other, t.amount(2), 100);
            Check.due("blanks alone", Check.read(t, "five     hundred", 0), 2);
            Check.due("are nothing between", t.amount(0), 500);
        }
    }

    private static void ofTheFirstAndTheLastToken() {
        Check.sentence("THE AMOUNT that begins at a TOKEN. UNKNOWN (no such TOKEN)");
        WordTables t = new WordTables(12);
        Check.number(t, "a", 20);
        Check.number(t, "b", 5);
        Check.due("read", Check.read(t, "a" + Check.times('.', 21) + "a b", 0), 24);
        int[] places = {0, 22, 23};
        int[] amounts = {20, 25, 5};
        int[] lengths = {1, 2, 1};
        for (int k = 0; k < places.length; k++) {
            Check.due("amountLength(" + places[k] + ")", t.amountLength(places[k]), lengths[k]);
        }
        for (int k = 0; k < places.length; k++) {
            Check.due("amount(" + places[k] + ")", t.amount(places[k]), amounts[k]);
        }
        for (int i : Check.beyond(0, 23)) {
            Check.due("amount(" + i + ")", t.amount(i), Check.UNKNOWN);
            Check.due("amountLength(" + i + ")", t.amountLength(i), Check.UNKNOWN);
        }
    }
}
