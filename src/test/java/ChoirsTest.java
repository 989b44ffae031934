/** Promises 33 to 35: choirs, their spread, how much they have to be ahead. */
final class ChoirsTest {
    private static final Class<IllegalStateException> STATE = IllegalStateException.class;
    private static final Class<IllegalArgumentException> ARGUMENT = IllegalArgumentException.class;
    private static final Class<IndexOutOfBoundsException> INDEX = IndexOutOfBoundsException.class;

    public static void main(String[] args) {
        WhiteclothTable t = new WhiteclothTable();
        Check.same("spread() of none", t.spread(), 0);
        Check.fails(t, "aheadOf(0) of none", INDEX, () -> t.aheadOf(0));
        Check.fails(t, "lag -1", ARGUMENT, () -> t.addChoir(-1, 0));
        Check.fails(t, "lag 100", ARGUMENT, () -> t.addChoir(100, 0));
        Check.fails(t, "metres -1", ARGUMENT, () -> t.addChoir(0, -1));
        Check.fails(t, "metres 201", ARGUMENT, () -> t.addChoir(0, 201));
        Check.same("addChoir", t.addChoir(50, 10), 0);
        Check.same("spread() of one", t.spread(), 0);
        Check.same("aheadOf(0)", t.aheadOf(0), 0);
        Check.same("addChoir", t.addChoir(20, 30), 1);
        Check.same("spread()", t.spread(), 30);
        Check.same("aheadOf(0)", t.aheadOf(0), 0);
        Check.same("aheadOf(1)", t.aheadOf(1), 30);
        Check.same("addChoir", t.addChoir(0, 0), 2);
        Check.same("addChoir", t.addChoir(99, 200), 3);
        Check.same("addChoir", t.addChoir(99, 0), 4);
        Check.same("addChoir", t.addChoir(0, 200), 5);
        Check.fails(t, "the 7th", STATE, () -> t.addChoir(0, 0));
        Check.fails(t, "the 7th, lag 100", ARGUMENT, () -> t.addChoir(100, 0));
        int[] due = {80, 110, 0, 699, 99, 600};
        for (int i = 0; i < 6; i++) {
            Check.same("aheadOf " + i, t.aheadOf(i), due[i]);
        }
        Check.same("spread()", t.spread(), 699);
        Check.fails(t, "aheadOf(6)", INDEX, () -> t.aheadOf(6));
        Check.fails(t, "aheadOf(-1)", INDEX, () -> t.aheadOf(-1));
        WhiteclothTable u = new WhiteclothTable();
        u.addChoir(9, 200);
        u.addChoir(1, 100);
        u.addChoir(2, 100);
        Check.same("spread(), the first one latest", u.spread(), 308);
        Check.same("aheadOf(0)", u.aheadOf(0), 308);
        Check.same("aheadOf(1)", u.aheadOf(1), 0);
        Check.same("aheadOf(2)", u.aheadOf(2), 1);
        everyLag();
        everyMetre();
        twoAlike();
        firstOneIsTheFirstToSound();
        Check.end("ChoirsTest");
    }

    private static void everyLag() {
        for (int lag = 0; lag <= 99; lag++) {
            WhiteclothTable t = new WhiteclothTable();
            Check.same("addChoir", t.addChoir(0, 0), 0);
            Check.same("addChoir of lag " + lag, t.addChoir(lag, 0), 1);
            Check.same("aheadOf(1)", t.aheadOf(1), lag);
            Check.same("spread()", t.spread(), lag);
        }
    }

    private static void everyMetre() {
        for (int metres = 0; metres <= 200; metres++) {
            WhiteclothTable t = new WhiteclothTable();
            Check.same("addChoir " + metres + " away", t.addChoir(99, metres), 0);
            Check.same("spread() of one", t.spread(), 0);
            Check.same("aheadOf(0) of one", t.aheadOf(0), 0);
            Check.same("addChoir", t.addChoir(99, 0), 1);
            Check.same("aheadOf(0)", t.aheadOf(0), 3 * metres);
            Check.same("aheadOf(1)", t.aheadOf(1), 0);
            Check.same("spread()", t.spread(), 3 * metres);
        }
    }

    private static void twoAlike() {
        WhiteclothTable t = new WhiteclothTable();
        t.addChoir(99, 200);
        t.addChoir(99, 200);
        Check.same("spread() of two alike", t.spread(), 0);
        t.addChoir(96, 199);
        t.addChoir(99, 199);
        // 699, 699, 693, 696.
        Check.same("spread()", t.spread(), 6);
        Check.same("aheadOf(1)", t.aheadOf(1), 6);
        Check.same("aheadOf(2)", t.aheadOf(2), 0);
        Check.same("aheadOf(3)", t.aheadOf(3), 3);
    }

    /** Each choir that sounds ahead of all others has every other one ahead by more. */
    private static void firstOneIsTheFirstToSound() {
        WhiteclothTable t = new WhiteclothTable();
        int first = 699;
        int[] lags = {99, 90, 60, 40, 20, 0};
        int[] metres = {200, 150, 151, 90, 80, 81};
        for (int i = 0; i < 6; i++) {
            t.addChoir(lags[i], metres[i]);
            first = Math.min(first, lags[i] + 3 * metres[i]);
            for (int j = 0; j <= i; j++) {
                Check.same("aheadOf " + j + " of " + (i + 1), t.aheadOf(j), lags[j] + 3 * metres[j] - first);
            }
            Check.same("spread() of " + (i + 1), t.spread(), 699 - first);
        }
    }
}
