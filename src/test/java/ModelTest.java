import java.util.Random;

/** Long runs of calls, the same ones every time, answered by the class and by the plain model alike. */
public final class ModelTest {
    private static final int RUNS = 6000, CALLS = 512;
    private static final int[] ODD = {-1, -2, 3, 8, 64, 256, 1001, -1000, Integer.MIN_VALUE, Integer.MAX_VALUE};
    private static final int[] VALUES = {0, 1, 2, 5, 9, 10, 11, 20, 30, 90, 99, 100, 100, 120, 500, 999, 1000, 1000};
    private static final String[] LINES = {"1:30pm", "12:00am", "23:59", "24:00", "9:5", "\"a b\"", "\"", ".", ", ",
        "30000", "30001", "0007:15", "3:15amx", "--", ":\u00a0", "12:61", "0:10pm", "7", "\u0081", "11:11\u0083m"};

    private final Random random;
    private final WordTables real;
    private final PlainModel model;
    private final StringBuilder spoken = new StringBuilder();
    private int calls;
    private int last;

    private ModelTest(int seed) {
        random = new Random(seed);
        int cut = random.nextInt(16) - 1;
        real = new WordTables(cut);
        model = new PlainModel(cut);
        spoken.append("seed ").append(seed).append(", new WordTables(").append(cut).append(")");
    }

    public static void main(String[] args) {
        for (int seed = 0; seed < RUNS; seed++) {
            new ModelTest(seed).run(seed % 3 == 0);
        }
        Check.end();
    }

    private void run(boolean wild) {
        if (random.nextBoolean()) {
            for (int k = random.nextInt(6); k > 0; k--) {
                step(0);
            }
        }
        while (calls < CALLS) {
            if (wild) {
                step(random.nextInt(22));
            } else {
                play();
            }
        }
    }

    /** One step of a game that gets far: words are told, things meant, lines typed and asked about. */
    private void play() {
        switch (random.nextInt(8)) {
            case 0, 1, 2 -> {
                for (int k = random.nextInt(4); k >= 0; k--) {
                    step(1);
                }
                step(random.nextInt(6) == 0 ? 5 : 2);
                if (last >= 0 && random.nextBoolean()) {
                    step(3);
                }
            }
            case 3 -> step(new int[] {4, 3, 15, 13, 14, 14, 14, 16}[random.nextInt(8)]);
            case 4, 5 -> typeLine();
            default -> {
                for (int k = random.nextInt(12); k >= 0; k--) {
                    step(random.nextInt(22));
                }
            }
        }
    }

    private void typeLine() {
        for (int k = random.nextInt(12); k >= 0; k--) {
            String text = random.nextInt(3) == 0 ? LINES[random.nextInt(LINES.length)] : someWord();
            for (char c : (random.nextInt(5) == 0 ? text : text + " ").toCharArray()) {
                answer("type(" + (int) c + ")", real.type(c), model.type(c));
            }
        }
        step(7);
    }

    private String someWord() {
        StringBuilder text = new StringBuilder();
        for (int k = random.nextInt(4); k >= 0; k--) {
            text.append((char) someLetter());
        }
        return text.toString();
    }

    private int someLetter() {
        return "aabAm\u0081\u0082p".charAt(random.nextInt(8));
    }

    private int number(int below) {
        return random.nextInt(40) == 0 ? ODD[random.nextInt(ODD.length)] : random.nextInt(Math.max(1, below));
    }

    private int aWord() {
        return number(model.told(1) + random.nextInt(2));
    }

    private int aToken() {
        return number(model.told(4) + random.nextInt(2));
    }

    private void step(int call) {
        if (call < 8) {
            tell(call);
        } else if (call < 12) {
            askOfTokens(call, aToken());
        } else if (call < 17) {
            tellOfThings(call);
        } else {
            ask(call, aToken());
        }
    }

    private void tell(int call) {
        int a;
        int b;
        switch (call) {
            case 0 -> {
                a = random.nextInt(10) == 0 ? number(256) : 129 + random.nextInt(4);
                b = random.nextInt(10) == 0 ? number(256) : "abmp".charAt(random.nextInt(4));
                answer("fold(" + a + ", " + b + ")", real.fold(a, b), model.fold(a, b));
            }
            case 1 -> {
                a = random.nextInt(30) == 0 ? number(256) : someLetter();
                answer("letter(" + a + ")", real.letter(a), model.letter(a));
            }
            case 2 -> {
                a = number(3);
                b = random.nextInt(3) == 0 ? 32 : number(64);
                answer("word(" + a + ", " + b + ")", real.word(a, b), model.word(a, b));
            }
            case 3 -> {
                a = random.nextBoolean() ? model.told(1) - 1 : aWord();
                b = random.nextInt(20) == 0 ? number(1100) : VALUES[random.nextInt(VALUES.length)];
                answer("value(" + a + ", " + b + ")", real.value(a, b), model.value(a, b));
            }
            case 4 -> {
                a = aWord();
                b = random.nextInt(8) == 0 ? -1 : aWord();
                answer("plural(" + a + ", " + b + ")", real.plural(a, b), model.plural(a, b));
            }
            case 5 -> {
                a = aWord();
                b = aWord();
                answer("join(" + a + ", " + b + ")", real.join(a, b), model.join(a, b));
            }
            case 6 -> {
                a = random.nextInt(4) == 0 ? number(256) : someLetter();
                answer("type(" + a + ")", real.type(a), model.type(a));
            }
            default -> {
                a = number(3);
                answer("read(" + a + ")", real.read(a), model.read(a));
            }
        }
    }

    private void askOfTokens(int call, int i) {
        int k = number(7);
        switch (call) {
            case 8 -> answer("token(" + i + ", " + k + ")", real.token(i, k), model.token(i, k));
            case 9 -> answer("at(" + i + ", " + k + ")", real.at(i, k), model.at(i, k));
            case 10 -> answer("amount(" + i + ")", real.amount(i), model.amount(i));
            default -> answer("amountLength(" + i + ")", real.amountLength(i), model.amountLength(i));
        }
    }

    private void tellOfThings(int call) {
        int a;
        int b;
        int c;
        switch (call) {
            case 13 -> answer("thing()", real.thing(), model.thing());
            case 14 -> {
                a = number(model.told(5));
                b = aWord();
                c = number(9) - (random.nextBoolean() ? 1 : 0);
                answer("means(" + a + ", " + b + ", " + c + ")", real.means(a, b, c), model.means(a, b, c));
            }
            case 15 -> {
                a = number(9);
                boolean up = random.nextBoolean();
                answer("flag(" + a + ", " + up + ")", real.flag(a, up), model.flag(a, up));
            }
            case 16 -> {
                a = aWord();
                b = number((1 << model.told(5)) + random.nextInt(2));
                answer("refer(" + a + ", " + b + ")", real.refer(a, b), model.refer(a, b));
            }
            default -> {
                a = number(8);
                answer("told(" + a + ")", real.told(a), model.told(a));
            }
        }
    }

    private void ask(int call, int i) {
        int a = aWord();
        int b = aWord();
        int what = number(7);
        switch (call) {
            case 17 -> answer("meant(" + i + ")", real.meant(i), model.meant(i));
            case 18 -> answer("phrase(" + i + ")", real.phrase(i), model.phrase(i));
            case 19 -> answer("phraseLength(" + i + ")", real.phraseLength(i), model.phraseLength(i));
            case 20 -> answer("about(" + a + ", " + what + ")", real.about(a, what), model.about(a, what));
            default -> answer("equal(" + a + ", " + b + ")", real.equal(a, b), model.equal(a, b));
        }
    }

    /** What an object answers behind its 512th call is free. */
    private void answer(String call, int got, int want) {
        calls++;
        if (calls > CALLS) {
            return;
        }
        last = got;
        spoken.append("; ").append(call).append(" ").append(got);
        Check.due(got == want ? call : spoken.toString(), got, want);
    }
}
