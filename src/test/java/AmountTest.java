/** Promises 12 (amount) and 13 (amountLength). */
public final class AmountTest {
    private static final int[] VALUES = {0, 1, 5, 9, 10, 20, 25, 90, 99, 100, 101, 120, 200, 250, 999, 1000};

    public static void main(String[] args) {
        oneNumberWord();
        hundreds();
        thousands();
        tens();
        whatEndsIt();
        digitsStandAlone();
        refused();
        valuesCountAsTheyAreNow();
        Check.end();
    }

    /** A number word for each of the values, spelled a, b, c .. in their order. */
    private static WordTables tables() {
        WordTables t = new WordTables(6);
        for (int k = 0; k < VALUES.length; k++) {
            Check.number(t, "" + (char) ('a' + k), VALUES[k]);
        }
        Check.word(t, "lamp", 0, 31);
        return t;
    }

    private static String spelled(int value) {
        for (int k = 0; k < VALUES.length; k++) {
            if (VALUES[k] == value) {
                return "" + (char) ('a' + k) + " ";
            }
        }
        return "? ";
    }

    private static void sum(int amount, int length, int... values) {
        WordTables t = tables();
        StringBuilder line = new StringBuilder();
        for (int v : values) {
            line.append(spelled(v));
        }
        Check.due("read <" + line + ">", Check.read(t, line.toString(), 1), values.length);
        Check.due("amount of <" + line + ">", t.amount(0), amount);
        Check.due("length of <" + line + ">", t.amountLength(0), length);
    }

    private static void oneNumberWord() {
        for (int v : VALUES) {
            sum(v, 1, v);
        }
        sum(0, 1, 0, 5);
        sum(0, 1, 0, 0);
        sum(0, 1, 0, 100);
        sum(0, 1, 0, 1000);
        sum(5, 1, 5, 5);
        sum(5, 1, 5, 0);
        sum(5, 1, 5, 20);
    }

    private static void hundreds() {
        sum(500, 2, 5, 100);
        sum(900, 2, 9, 100);
        sum(100, 2, 1, 100);
        sum(10, 1, 10, 100);
        sum(100, 1, 100, 100);
        sum(500, 2, 5, 100, 100);
        sum(520, 3, 5, 100, 20);
        sum(525, 4, 5, 100, 20, 5);
        sum(599, 3, 5, 100, 99);
        sum(505, 3, 5, 100, 5, 5);
        sum(510, 3, 5, 100, 10, 5);
        sum(205, 2, 200, 5);
        sum(101, 2, 100, 1);
        sum(1005, 2, 1000, 5);
        sum(1025, 3, 1000, 20, 5);
        sum(500, 2, 5, 100, 101);
        sum(5, 1, 5, 101);
        sum(5, 1, 5, 200);
        sum(250, 1, 250, 20);
    }

    private static void thousands() {
        sum(5000, 2, 5, 1000);
        sum(1000, 2, 1, 1000);
        sum(999000, 2, 999, 1000);
        sum(1000, 1, 1000, 1000);
        sum(5000, 2, 5, 1000, 1000);
        sum(5000, 2, 5, 1000, 100);
        sum(5000, 2, 5, 1000, 0);
        sum(5000, 2, 5, 1000, 101);
        sum(5099, 3, 5, 1000, 99);
        sum(5001, 3, 5, 1000, 1);
        sum(1, 1, 1, 1);
        sum(5500, 4, 5, 1000, 5, 100);
        sum(5500, 4, 5, 1000, 5, 100, 1000);
        sum(525525, 9, 5, 100, 20, 5, 1000, 5, 100, 20, 5, 5);
        sum(5005, 3, 5, 1000, 5, 1000);
        sum(100000, 2, 100, 1000);
        sum(99000, 2, 99, 1000);
    }

    private static void tens() {
        sum(25, 2, 20, 5);
        sum(99, 2, 90, 9);
        sum(91, 2, 90, 1);
        sum(20, 1, 20, 10);
        sum(20, 1, 20, 20);
        sum(20, 1, 20, 0);
        sum(10, 1, 10, 5);
        sum(25, 1, 25, 5);
        sum(25, 2, 20, 5, 5);
        sum(125, 2, 120, 5);
        sum(255, 2, 250, 5);
        sum(101, 1, 101, 5);
        sum(25000, 3, 20, 5, 1000);
    }

    private static void whatEndsIt() {
        WordTables t = tables();
        int five = 2;
        Check.join(t, "fivehundred", five, 9);
        Check.due("read", Check.read(t, "c lamp j c, j fivehundred 3", 0), 9);
        Check.due("a word of another kind", t.amount(0), 5);
        Check.due("it is none", t.amount(1), Check.STATE);
        Check.due("it is none", t.amountLength(1), 0);
        Check.due("in the midst", t.amount(2), 105);
        Check.due("a mark", t.amountLength(3), 1);
        Check.due("a mark is none", t.amount(4), Check.STATE);
        Check.due("behind 100 belongs 5", t.amount(5), 105);
        Check.due("but no 100 then", t.amountLength(5), 2);
        Check.due("joined ones", t.amount(6), 500);
        Check.due("without the digit", t.amountLength(6), 2);
        Check.due("the last", t.amount(7), 100);
        Check.due("the digit", t.amount(8), 3);
    }

    private static void digitsStandAlone() {
        WordTables t = tables();
        Check.due("read", Check.read(t, "5 j 30000 p 30001 7 1:05 \"c\"", 0), 8);
        int[] amounts = {5, 100, 30000, 1000, Check.STATE, 7, Check.STATE, Check.STATE};
        int[] lengths = {1, 1, 1, 1, 0, 1, 0, 0};
        for (int i = 0; i < 8; i++) {
            Check.due("amount(" + i + ")", t.amount(i), amounts[i]);
            Check.due("amountLength(" + i + ")", t.amountLength(i), lengths[i]);
        }
    }

    private static void refused() {
        WordTables t = tables();
        Check.read(t, "c zz -", 0);
        int[] wrong = {-1, 3, 24, Integer.MIN_VALUE, Integer.MAX_VALUE};
        for (int i : wrong) {
            Check.due("amount(" + i + ")", t.amount(i), Check.UNKNOWN);
            Check.due("amountLength(" + i + ")", t.amountLength(i), Check.UNKNOWN);
        }
        Check.due("a strange word", t.amount(1), Check.STATE);
        Check.due("a strange word", t.amountLength(1), 0);
        Check.due("an other", t.amount(2), Check.STATE);
        Check.due("an other", t.amountLength(2), 0);
    }

    private static void valuesCountAsTheyAreNow() {
        WordTables t = tables();
        Check.read(t, "c j", 0);
        Check.due("before", t.amount(0), 500);
        t.value(2, 7);
        Check.due("behind", t.amount(0), 700);
        t.value(9, 1000);
        Check.due("behind", t.amount(0), 7000);
    }
}
