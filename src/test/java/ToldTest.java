/** Promise 23 (told): each count goes its own way. */
public final class ToldTest {
    public static void main(String[] args) {
        eachGoesItsOwnWay();
        noneAndAll();
        Check.end();
    }

    private static void eachGoesItsOwnWay() {
        WordTables t = new WordTables(6);
        int[] want = new int[7];
        counts(t, want);
        t.letter('a');
        want[0] = 1;
        counts(t, want);
        t.word(0, Check.PRONOUN);
        want[0] = 0;
        want[1] = 1;
        counts(t, want);
        Check.join(t, "bc", 0, 0);
        Check.join(t, "bc", 0, 0);
        want[2] = 2;
        counts(t, want);
        Check.line(t, "a b c");
        want[3] = 5;
        counts(t, want);
        t.read(0);
        want[3] = 0;
        want[4] = 3;
        counts(t, want);
        for (int k = 0; k < 4; k++) {
            t.thing();
        }
        want[5] = 4;
        counts(t, want);
        for (int k = 0; k < 6; k++) {
            t.means(0, 0, k);
        }
        want[6] = 6;
        counts(t, want);
        Check.draft(t, "xyz");
        Check.line(t, "xy");
        want[0] = 3;
        want[3] = 2;
        counts(t, want);
        int[] wrong = {-1, 7, Integer.MIN_VALUE, Integer.MAX_VALUE};
        for (int what : wrong) {
            Check.due("told(" + what + ")", t.told(what), Check.UNKNOWN);
        }
    }

    /** The counts of empty and of full tables, the first and the last what, and those beyond. */
    private static void noneAndAll() {
        Check.sentence("How many: 0 letters of THE DRAFT, .. 6 MEANINGS. UNKNOWN.");
        WordTables fresh = new WordTables(12);
        WordTables full = Stage.full().told();
        counts(fresh, new int[7]);
        counts(full, Check.row(20, 40, 8, 80, 24, 12, 60));
        for (int what : Check.beyond(0, 6)) {
            Check.due("new: told(" + what + ")", fresh.told(what), Check.UNKNOWN);
            Check.due("full: told(" + what + ")", full.told(what), Check.UNKNOWN);
        }
        full.read(3);
        full.word(0, 0);
        counts(full, Check.row(0, 40, 8, 0, 24, 12, 60));
        full.read(0);
        counts(full, Check.row(0, 40, 8, 0, 0, 12, 60));
    }

    private static void counts(WordTables t, int[] want) {
        for (int what = 0; what < want.length; what++) {
            Check.due("told(" + what + ")", t.told(what), want[what]);
        }
    }
}
