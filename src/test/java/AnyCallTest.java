import java.util.Random;

/**
 * Any calls with any arguments in any state: none throws, far behind the 512th as well, where answers are free;
 * and up to that each answer is one that its promise knows, a refusal that it names or a number in its range.
 */
public final class AnyCallTest {
    private static final int OBJECTS = 400, CALLS = 4000, LAST_CALL = 512, KINDS_OF_CALLS = 22;
    private static final int[] ODD = {-1, -2, -3, 12, 20, 24, 40, 60, 64, 80, 127, 128, 159, 160, 255, 256, 1000, 1001,
        4095, 4096, 65536, Integer.MIN_VALUE, Integer.MIN_VALUE + 1, Integer.MAX_VALUE - 1, Integer.MAX_VALUE};
    private static final String LINE = "aB \u0080m.1:305\"#p";

    /** For each call: its name, the answers below 0 that its promise knows, and the greatest of the others. */
    private static final String[] NAMES = {"fold", "letter", "word", "value", "plural", "join", "type", "read", "token",
        "at", "amount", "amountLength", "thing", "means", "flag", "refer", "meant", "phrase", "phraseLength", "about",
        "equal", "told"};
    private static final int[][] BELOW = {{-3, -4}, {-3, -5}, {-3, -4, -5}, {-2, -3, -4}, {-1, -2, -4}, {-2, -4, -5},
        {-3, -5}, {-3, -5}, {-1, -2}, {-2}, {-2, -4}, {-2}, {-5}, {-2, -3, -5}, {-3}, {-2, -3, -4}, {-2}, {-2}, {-2},
        {-1, -2}, {-2}, {-2}};
    private static final int[] GREATEST = {159, 20, 39, 1000, 39, 8, 80, 24, 30000, 255, 999999, 24, 11, 60, 1, 4095,
        4095, 4095, 24, 4095, 1, 80};

    private final Random random;
    private final WordTables tables;

    private AnyCallTest(int seed) {
        random = new Random(seed);
        tables = new WordTables(any());
    }

    public static void main(String[] args) {
        for (int seed = 0; seed < OBJECTS; seed++) {
            new AnyCallTest(seed).run(seed);
        }
        Check.end();
    }

    private void run(int seed) {
        for (int calls = 1; calls <= CALLS; calls++) {
            int call = next();
            int answer = answer(call, any(), any(), any());
            if (calls <= LAST_CALL) {
                String name = "object " + seed + ", call " + calls + ", a number that " + NAMES[call] + " answers";
                Check.due(name + " (" + answer + ")", isKnown(call, answer) ? 1 : 0, 1);
            }
        }
    }

    private static boolean isKnown(int call, int answer) {
        for (int below : BELOW[call]) {
            if (answer == below) {
                return true;
            }
        }
        return answer >= 0 && answer <= GREATEST[call];
    }

    /** Letters and bytes come more often than the other calls, so that there are words and lines. */
    private int next() {
        int call = random.nextInt(KINDS_OF_CALLS + 12);
        return call < KINDS_OF_CALLS ? call : call % 2 == 0 ? 1 : 6;
    }

    private int any() {
        switch (random.nextInt(8)) {
            case 0:
                return ODD[random.nextInt(ODD.length)];
            case 1:
                return random.nextInt();
            case 2:
                return random.nextInt(64);
            case 3, 4:
                return random.nextInt(4);
            default:
                return LINE.charAt(random.nextInt(LINE.length()));
        }
    }

    private int answer(int call, int a, int b, int c) {
        return switch (call) {
            case 0 -> tables.fold(a, b);
            case 1 -> tables.letter(a);
            case 2 -> tables.word(a, b);
            case 3 -> tables.value(a, b);
            case 4 -> tables.plural(a, b);
            case 5 -> tables.join(a, b);
            case 6 -> tables.type(a);
            case 7 -> tables.read(a);
            case 8 -> tables.token(a, b);
            case 9 -> tables.at(a, b);
            case 10 -> tables.amount(a);
            case 11 -> tables.amountLength(a);
            case 12 -> tables.thing();
            case 13 -> tables.means(a, b, c);
            case 14 -> tables.flag(a, b % 2 == 0);
            case 15 -> tables.refer(a, b);
            case 16 -> tables.meant(a);
            case 17 -> tables.phrase(a);
            case 18 -> tables.phraseLength(a);
            case 19 -> tables.about(a, b);
            case 20 -> tables.equal(a, b);
            default -> tables.told(a);
        };
    }
}
