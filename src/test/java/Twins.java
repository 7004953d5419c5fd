import java.util.ArrayList;
import java.util.List;

/**
 * Two objects that were told the same, of which one is refused a call: all that can be asked must be answered
 * alike by both then. What asking would change is asked of two new ones each time.
 */
final class Twins {
    private static final int PARTS = 11;

    interface Call {
        int on(WordTables t);
    }

    private Twins() {
    }

    /** The call is refused with the answer that is due, and leaves no trace. */
    static void refuse(Stage stage, String name, int want, Call call) {
        refuse(stage, stage, name, want, call);
    }

    /** The call is refused, and leaves what the other stage has. */
    static void refuse(Stage stage, Stage left, String name, int want, Call call) {
        for (int part = 0; part < PARTS; part++) {
            WordTables refused = stage.told();
            Check.due(name, call.on(refused), want);
            same(name, part, trace(refused, part, left), trace(left.told(), part, left));
        }
    }

    private static void same(String name, int part, List<Integer> got, List<Integer> want) {
        boolean alike = got.equals(want);
        if (!alike) {
            System.out.println(name + " left, in part " + part + ", " + got + ", due is " + want);
        }
        Check.due(name + ": nothing changes, part " + part, alike ? 1 : 0, 1);
    }

    private static List<Integer> trace(WordTables t, int part, Stage stage) {
        List<Integer> seen = new ArrayList<>();
        switch (part) {
            case 0 -> counts(t, seen);
            case 1 -> words(t, seen, 0);
            case 2 -> words(t, seen, 3);
            case 3 -> likes(t, seen);
            case 4 -> tokens(t, seen, 4);
            case 5 -> senses(t, seen);
            case 6 -> flags(t, seen);
            case 7 -> folds(t, seen);
            case 8 -> line(t, seen);
            case 9 -> draft(t, seen, stage.draft);
            default -> probes(t, seen, stage.probes);
        }
        return seen;
    }

    private static void counts(WordTables t, List<Integer> seen) {
        for (int what = 0; what <= 6; what++) {
            seen.add(t.told(what));
        }
    }

    private static void words(WordTables t, List<Integer> seen, int from) {
        int words = t.told(1);
        for (int w = 0; w <= words; w++) {
            for (int what = from; what < from + 3; what++) {
                seen.add(t.about(w, what));
            }
        }
    }

    private static void likes(WordTables t, List<Integer> seen) {
        int words = t.told(1);
        for (int w = 0; w < words; w++) {
            seen.add(t.equal(w, w));
            seen.add(t.equal(w, (w + 26) % words));
        }
    }

    private static void tokens(WordTables t, List<Integer> seen, int most) {
        int tokens = t.told(4);
        for (int i = 0; i < tokens; i++) {
            for (int what = 0; what <= most; what++) {
                seen.add(t.token(i, what));
            }
        }
    }

    private static void senses(WordTables t, List<Integer> seen) {
        int tokens = t.told(4);
        for (int i = 0; i < tokens; i++) {
            seen.add(t.at(i, 0));
            seen.add(t.at(i, 1));
            seen.add(t.amount(i));
            seen.add(t.amountLength(i));
            seen.add(t.meant(i));
            seen.add(t.phrase(i));
            seen.add(t.phraseLength(i));
        }
    }

    private static void flags(WordTables t, List<Integer> seen) {
        int tokens = t.told(4);
        for (int f = 0; f < 8; f++) {
            seen.add(t.flag(f, f % 2 == 0));
        }
        for (int i = 0; i < tokens; i++) {
            seen.add(t.meant(i));
        }
        for (int f = 0; f < 8; f++) {
            seen.add(t.flag(f, f % 2 == 1));
        }
        for (int i = 0; i < tokens; i++) {
            seen.add(t.meant(i));
        }
    }

    private static void folds(WordTables t, List<Integer> seen) {
        for (int c = 128; c <= 159; c++) {
            seen.add(t.fold(c, 'q'));
        }
    }

    private static void line(WordTables t, List<Integer> seen) {
        seen.add(t.type('.'));
        seen.add(t.read(0));
        tokens(t, seen, 3);
        int tokens = t.told(4);
        for (int i = 0; i < tokens; i++) {
            int length = t.token(i, 2);
            for (int k = 0; k < length; k++) {
                seen.add(t.at(i, k));
            }
        }
    }

    /** The draft becomes a word, where it can, and the letters that it is due to have find that. */
    private static void draft(WordTables t, List<Integer> seen, String letters) {
        seen.add(t.letter('a'));
        seen.add(t.word(2, 1));
        seen.add(t.word(0, 2));
        seen.add(t.read(0));
        seen.add(Check.read(t, letters + "a", 2));
        tokens(t, seen, 4);
        seen.add(t.about(t.told(1) - 1, 4));
    }

    private static void probes(WordTables t, List<Integer> seen, String[] probes) {
        t.read(0);
        for (String probe : probes) {
            for (int language = 0; language < 3; language++) {
                seen.add(Check.read(t, probe, language));
                tokens(t, seen, 3);
            }
        }
    }
}
