/** Promises 33 to 35: choirs, their spread, how much they have to be ahead. */
final class ChoirsTest {
    private static final Class<IllegalStateException> STATE = IllegalStateException.class;
    private static final Class<IllegalArgumentException> ARGUMENT = IllegalArgumentException.class;
    private static final Class<IndexOutOfBoundsException> INDEX = IndexOutOfBoundsException.class;

    public static void main(String[] args) {
        WhiteclothTable t = new WhiteclothTable();
        Check.same("spread() of none", t.spread(), 0);
        Check.fails(t, "aheadOf(0) of none", INDEX, () -> t.aheadOf(0));
        Check.fails(t, "lag -1", ARGUMENT, () -> t.addChoir(-1, 0));
        Check.fails(t, "lag 100", ARGUMENT, () -> t.addChoir(100, 0));
        Check.fails(t, "metres -1", ARGUMENT, () -> t.addChoir(0, -1));
        Check.fails(t, "metres 201", ARGUMENT, () -> t.addChoir(0, 201));
        Check.same("addChoir", t.addChoir(50, 10), 0);
        Check.same("spread() of one", t.spread(), 0);
        Check.same("aheadOf(0)", t.aheadOf(0), 0);
        Check.same("addChoir", t.addChoir(20, 30), 1);
        Check.same("spread()", t.spread(), 30);
        Check.same("aheadOf(0)", t.aheadOf(0), 0);
        Check.same("aheadOf(1)", t.aheadOf(1), 30);
        Check.same("addChoir", t.addChoir(0, 0), 2);
        Check.same("addChoir", t.addChoir(99, 200), 3);
        Check.same("addChoir", t.addChoir(99, 0), 4);
        Check.same("addChoir", t.addChoir(0, 200), 5);
        Check.fails(t, "the 7th", STATE, () -> t.addChoir(0, 0));
        Check.fails(t, "the 7th, lag 100", ARGUMENT, () -> t.addChoir(100, 0));
        int[] due = {80, 110, 0, 699, 99, 600};
        for (int i = 0; i < 6; i++) {
            Check.same("aheadOf " + i, t.aheadOf(i), due[i]);
        }
        Check.same("spread()", t.spread(), 699);
        Check.fails(t, "aheadOf(6)", INDEX, () -> t.aheadOf(6));
        Check.fails(t, "aheadOf(-1)", INDEX, () -> t.aheadOf(-1));
        WhiteclothTable u = new WhiteclothTable();
        u.addChoir(9, 200);
        u.addChoir(1, 100);
        u.addChoir(2, 100);
        Check.same("spread(), the first one latest", u.spread(), 308);
        Check.same("aheadOf(0)", u.aheadOf(0), 308);
        Check.same("aheadOf(1)", u.aheadOf(1), 0);
        Check.same("aheadOf(2)", u.aheadOf(2), 1);
        Check.end("ChoirsTest");
    }
}
