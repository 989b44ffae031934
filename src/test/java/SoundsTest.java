import java.util.NoSuchElementException;

/** Promises 25 to 27: levels, the loudest tick, clashes. */
final class SoundsTest {
    private static final Class<NoSuchElementException> NONE = NoSuchElementException.class;
    private static final Class<IllegalArgumentException> ARGUMENT = IllegalArgumentException.class;

    public static void main(String[] args) {
        ranges();
        level('r', 100, 96, 92);
        level('s', 60, 60, 60);
        level('m', 80, 70, 60);
        level('d', 50, 0, 0);
        level('e', 90, 30, 78);
        longNotes();
        weights();
        outsideItsLength();
        loudest();
        intervals();
        clashTicks();
        silentNotesDoNotClash();
        lastTicks();
        Check.end("SoundsTest");
    }

    private static WhiteclothTable table() {
        WhiteclothTable t = new WhiteclothTable();
        for (int pitch = 0; pitch < 60; pitch++) {
            t.setBell(pitch, true);
        }
        return t;
    }

    private static void ranges() {
        WhiteclothTable t = table();
        Check.same("levelAt(0)", t.levelAt(0), 0);
        Check.same("levelAt(500)", t.levelAt(500), 0);
        Check.fails(t, "levelAt(-1)", ARGUMENT, () -> t.levelAt(-1));
        Check.fails(t, "levelAt(501)", ARGUMENT, () -> t.levelAt(501));
        Check.fails(t, "loudest()", NONE, () -> t.loudest());
        Check.same("clashes()", t.clashes(), 0);
    }

    /** A bell of weight 1 makes 11 tenths of the level. */
    private static void level(char way, int... strikes) {
        WhiteclothTable t = table();
        t.note(7, 59, 3, way);
        for (int age = 0; age < 3; age++) {
            Check.same("levelAt, " + way + " at " + age, t.levelAt(7 + age), strikes[age] * 11 / 10);
        }
    }

    private static void longNotes() {
        WhiteclothTable t = table();
        t.note(0, 59, 64, 'r');
        Check.same("r at 24", t.levelAt(24), 4);
        Check.same("r at 25", t.levelAt(25), 0);
        Check.same("r at 63", t.levelAt(63), 0);
        t.drop(0);
        t.note(0, 59, 64, 'm');
        Check.same("m at 7", t.levelAt(7), 11);
        Check.same("m at 8", t.levelAt(8), 0);
        Check.same("m at 40", t.levelAt(40), 0);
        t.drop(0);
        t.note(0, 59, 64, 'e');
        Check.same("e at 14", t.levelAt(14), 6);
        Check.same("e at 16", t.levelAt(16), 0);
        Check.same("e at 62", t.levelAt(62), 0);
        Check.same("e at 63", t.levelAt(63), 33);
        t.drop(0);
        t.note(0, 59, 64, 's');
        Check.same("s at 63", t.levelAt(63), 66);
        Check.same("s at 64", t.levelAt(64), 0);
    }

    private static void weights() {
        for (int pitch = 0; pitch < 60; pitch++) {
            WhiteclothTable t = table();
            t.note(0, pitch, 2, 'r');
            Check.same("levelAt(1) of " + pitch, t.levelAt(1), 96 * (11 + (59 - pitch) / 7) / 10);
        }
    }

    private static void outsideItsLength() {
        WhiteclothTable t = table();
        t.note(10, 59, 2, 'r');
        t.note(12, 58, 1, 's');
        Check.same("levelAt(9)", t.levelAt(9), 0);
        Check.same("levelAt(10)", t.levelAt(10), 110);
        Check.same("levelAt(11)", t.levelAt(11), 105);
        Check.same("levelAt(12)", t.levelAt(12), 66);
        Check.same("levelAt(13)", t.levelAt(13), 0);
        t.note(11, 57, 5, 'd');
        Check.same("levelAt(11)", t.levelAt(11), 160);
    }

    private static void loudest() {
        WhiteclothTable t = table();
        t.note(10, 59, 5, 's');
        Check.same("loudest(), of like ones", t.loudest(), 10);
        t.note(13, 50, 1, 'd');
        Check.same("loudest()", t.loudest(), 13);
        t.note(400, 0, 1, 'r');
        Check.same("loudest()", t.loudest(), 400);
        t.note(0, 0, 1, 'r');
        Check.same("loudest(), of like ones", t.loudest(), 0);
    }

    private static void intervals() {
        for (int apart = 1; apart < 60; apart++) {
            WhiteclothTable t = table();
            t.note(5, 0, 1, 'r');
            t.note(5, apart, 1, 'r');
            int rest = apart % 12;
            Check.same("clashes() " + apart + " apart", t.clashes(), rest == 1 || rest == 6 || rest == 11 ? 1 : 0);
        }
        WhiteclothTable all = table();
        for (int low = 0; low < 59; low++) {
            all.note(5, low, 1, 'r');
            for (int high = low + 1; high < 60 && high < low + 13; high++) {
                all.note(5, high, 1, 'r');
                int apart = high - low;
                Check.same("clashes() of " + low + " and " + high, all.clashes(),
                        apart == 1 || apart == 6 || apart == 11 ? 1 : 0);
                all.drop(1);
            }
            all.drop(0);
        }
        for (int low = 0; low < 54; low++) {
            WhiteclothTable t = table();
            t.note(5, low, 1, 'r');
            t.note(5, low + 6, 1, 'r');
            Check.same("clashes() from " + low, t.clashes(), 1);
            t.transpose(-low);
            t.drop(1);
            t.note(5, 7, 1, 'r');
            Check.same("clashes(), a fifth", t.clashes(), 0);
        }
    }

    private static void clashTicks() {
        WhiteclothTable t = table();
        t.note(0, 30, 10, 's');
        t.note(8, 31, 10, 's');
        Check.same("clashes()", t.clashes(), 2);
        t.note(9, 36, 10, 's');
        // Tick 9 has three such twos and counts once; 36 and 31 do not clash.
        Check.same("clashes()", t.clashes(), 2);
        t.note(17, 37, 1, 's');
        Check.same("clashes()", t.clashes(), 3);
    }

    private static void silentNotesDoNotClash() {
        WhiteclothTable t = table();
        t.note(0, 30, 10, 's');
        t.note(2, 31, 5, 'd');
        Check.same("clashes()", t.clashes(), 1);
        t.drop(1);
        t.note(0, 31, 10, 'm');
        Check.same("clashes()", t.clashes(), 8);
        t.drop(1);
        t.note(0, 31, 64, 'r');
        Check.same("clashes()", t.clashes(), 10);
    }

    private static void lastTicks() {
        WhiteclothTable t = table();
        t.note(400, 30, 64, 's');
        t.note(400, 31, 64, 's');
        Check.same("clashes()", t.clashes(), 64);
        t.note(0, 0, 1, 'd');
        Check.same("levelAt(463)", t.levelAt(463), 2 * (60 * 15 / 10));
        Check.same("levelAt(464)", t.levelAt(464), 0);
        t.drop(1);
        t.note(340, 0, 1, 'd');
        Check.same("loudest()", t.loudest(), 0);
    }
}
