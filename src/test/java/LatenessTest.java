import java.util.NoSuchElementException;

/** Promises 21 to 24: slips, lateness, what a slip carries. */
final class LatenessTest {
    private static final Class<NoSuchElementException> NONE = NoSuchElementException.class;
    private static final Class<IllegalArgumentException> ARGUMENT = IllegalArgumentException.class;
    private static final Class<IndexOutOfBoundsException> INDEX = IndexOutOfBoundsException.class;

    public static void main(String[] args) {
        slips();
        everySlip();
        chain();
        neighbours();
        firstAndLastPlace();
        latestOnesOnly();
        cutTowardsZero();
        everyCut();
        held();
        heldFromAHundredOn();
        heldIsWhatOthersHear();
        sameTick();
        notOwned();
        givenToAnother();
        mostLate();
        mostLateOfHeldOnes();
        carries();
        carriesOfHeldOnes();
        carriesOfTheLast();
        Check.end("LatenessTest");
    }

    /** A player for each leaning, player i having bell 50 + i. */
    private static WhiteclothTable table(int... leanings) {
        WhiteclothTable t = new WhiteclothTable();
        for (int i = 0; i < leanings.length; i++) {
            t.setBell(50 + i, true);
            t.addPlayer(9, leanings[i]);
            t.give(50 + i, i);
        }
        return t;
    }

    private static void lates(WhiteclothTable t, int... due) {
        for (int i = 0; i < due.length; i++) {
            Check.same("lateOf " + i, t.lateOf(i), due[i]);
        }
    }

    private static void slips() {
        WhiteclothTable t = table(0);
        Check.fails(t, "slip(0) of none", INDEX, () -> t.slip(0, 0));
        t.note(0, 50, 1, 'r');
        Check.same("slip(0, 50)", t.slip(0, 50), 0);
        Check.same("slip(0, -50)", t.slip(0, -50), 50);
        Check.fails(t, "slip(0, 51)", ARGUMENT, () -> t.slip(0, 51));
        Check.fails(t, "slip(0, -51)", ARGUMENT, () -> t.slip(0, -51));
        Check.fails(t, "slip(1, 51)", INDEX, () -> t.slip(1, 51));
        Check.fails(t, "slip(-1, 0)", INDEX, () -> t.slip(-1, 0));
        Check.same("slip(0, 1)", t.slip(0, 1), -50);
    }

    private static void everySlip() {
        WhiteclothTable t = table(0);
        t.note(0, 50, 1, 'r');
        int before = 0;
        for (int by = -50; by <= 50; by++) {
            Check.same("slip " + by, t.slip(0, by), before);
            Check.same("lateOf, slip " + by, t.lateOf(0), by);
            before = by;
        }
    }

    /** There is no place beside the first and the last one: what is not there is 0, and nobody else is heard. */
    private static void firstAndLastPlace() {
        WhiteclothTable t = table(0, 0, 0, 0);
        for (int p = 0; p < 4; p++) {
            t.note(p, 50 + p, 1, 'r');
            t.slip(p, 30);
        }
        t.note(10, 50, 1, 'r');
        t.note(10, 53, 1, 'r');
        // 30, 30 + 10, 30 + 13, 30 + 14; then (30 + 40) / 3 and (43 + 44) / 3.
        lates(t, 30, 40, 43, 44, 23, 29);
        t.swap(0, 3);
        // Places of 0 to 3 are now 3, 1, 2, 0: 30, 30, 30 + 60 / 3, 30 + 10; then (30 + 50) / 3 and (40 + 30) / 3.
        lates(t, 30, 30, 50, 40, 26, 23);
        WhiteclothTable alone = table(0);
        alone.note(0, 50, 1, 'r');
        alone.note(1, 50, 1, 'r');
        alone.slip(0, 50);
        lates(alone, 50, 16);
    }

    /** Of each of the three players only the latest note ahead counts, however far back it is. */
    private static void latestOnesOnly() {
        WhiteclothTable t = table(0, 0, 0);
        t.note(0, 50, 1, 'r');
        t.note(0, 51, 1, 'r');
        t.note(0, 52, 1, 'r');
        t.note(1, 50, 1, 'r');
        t.note(400, 51, 1, 'r');
        t.slip(0, 9);
        t.slip(1, 9);
        t.slip(2, 9);
        // 9, 9 + 3, 9 + 4, (9 + 12) / 3, (7 + 12 + 13) / 3.
        lates(t, 9, 12, 13, 7, 10);
        t.drop(3);
        // Without it the first note of player 0 is the latest one again: (9 + 12 + 13) / 3.
        lates(t, 9, 12, 13, 11);
    }

    /** A note of slip s is s late, the next one of its player a third of that, cut towards 0. */
    private static void everyCut() {
        int[] thirds = {-2, -2, -1, -1, -1, 0, 0, 0, 0, 0, 1, 1, 1, 2, 2};
        for (int by = -7; by <= 7; by++) {
            WhiteclothTable t = table(0, 0);
            t.note(0, 50, 1, 'r');
            t.note(5, 50, 1, 'r');
            t.note(9, 51, 1, 'r');
            t.slip(0, by);
            t.slip(1, -thirds[by + 7]);
            Check.same("lateOf(1), slips even out", t.lateOf(1), 0);
            t.slip(1, 0);
            Check.same("lateOf(1) behind " + by, t.lateOf(1), thirds[by + 7]);
            t.slip(1, by);
            int then = by + thirds[by + 7];
            Check.same("lateOf(2) beside " + then, t.lateOf(2), (then < 0 ? -1 : 1) * (Math.abs(then) / 3));
        }
    }

    /**
     * Players at the sides are 49 late both, the middle one hears them and its own 52: a sum of 150, a third is 50.
     * With slips of 48 to 50 that comes to 98, 99 and 100; only 100 is held, and less is heard of it.
     */
    private static void heldFromAHundredOn() {
        for (int sign = -1; sign <= 1; sign += 2) {
            for (int by = 48; by <= 50; by++) {
                WhiteclothTable t = table(0, 0, 0);
                t.note(0, 50, 1, 'r');
                t.note(0, 52, 1, 'r');
                t.note(1, 51, 1, 'r');
                t.note(2, 51, 1, 'r');
                t.note(3, 51, 1, 'r');
                t.slip(0, sign * 49);
                t.slip(1, sign * 49);
                t.slip(2, sign * 20);
                t.slip(3, sign * by);
                int due = Math.min(99, 50 + by);
                lates(t, sign * 49, sign * 49, sign * 52, sign * due, sign * 65);
                t.slip(4, sign * 50);
                Check.same("lateOf(4)", t.lateOf(4), sign * 99);
                t.slip(4, sign * 34);
                Check.same("lateOf(4), 99 is not held", t.lateOf(4), sign * 99);
                t.slip(4, sign * 33);
                Check.same("lateOf(4), below 99", t.lateOf(4), sign * 98);
            }
        }
    }

    private static void givenToAnother() {
        WhiteclothTable t = table(3, -3);
        t.note(0, 50, 1, 'r');
        t.note(1, 50, 1, 'r');
        lates(t, 3, 4);
        t.give(50, 1);
        lates(t, -3, -4);
        t.give(50, -1);
        Check.fails(t, "lateOf(0)", NONE, () -> t.lateOf(0));
        Check.fails(t, "lateOf(1)", NONE, () -> t.lateOf(1));
        Check.fails(t, "mostLate()", NONE, () -> t.mostLate());
    }

    private static void mostLateOfHeldOnes() {
        WhiteclothTable t = table(0, 0);
        for (int i = 0; i < 4; i++) {
            t.note(i, 50, 1, 'r');
        }
        t.slip(0, -2);
        t.slip(2, 2);
        // -2, 0, 2, 0: of like amounts the first, which is early.
        Check.same("mostLate(), early and late alike", t.mostLate(), 0);
        t.slip(2, 3);
        Check.same("mostLate(), one more", t.mostLate(), 2);
        t.slip(0, -3);
        Check.same("mostLate(), alike again", t.mostLate(), 0);
        t.note(9, 51, 1, 'r');
        t.slip(4, 50);
        t.give(51, -1);
        Check.same("mostLate(), nobody's slip does not count", t.mostLate(), 0);
        t.give(51, 1);
        Check.same("mostLate(), the last note", t.mostLate(), 4);
    }

    /** With its slip or without, the note behind is held to 99: it is not late by another number. */
    private static void carriesOfHeldOnes() {
        WhiteclothTable t = table(3, 3, 3);
        for (int i = 0; i < 3; i++) {
            for (int p = 0; p < 3; p++) {
                t.note(i, 50 + p, 1, 'r');
                t.slip(t.notes() - 1, 50);
            }
        }
        t.note(5, 51, 1, 'r');
        t.slip(9, 50);
        t.slip(8, 10);
        // The last three are 99, 99 and 99 at 10 instead of 50; the note behind hears them.
        Check.same("lateOf(8)", t.lateOf(8), 99 * 2 / 3 + 3 + 10);
        Check.same("lateOf(9)", t.lateOf(9), 99);
        Check.same("carries(8), held behind", t.carries(8), 0);
        t.slip(9, 0);
        Check.same("carries(8), not held", t.carries(8), 1);
        t.slip(8, 0);
        Check.same("carries(8) without a slip", t.carries(8), 0);
    }

    private static void carriesOfTheLast() {
        WhiteclothTable t = table(0, 0, 0);
        t.note(0, 50, 1, 'r');
        t.note(0, 51, 1, 'r');
        t.note(0, 52, 1, 'r');
        t.slip(0, 9);
        t.slip(1, 9);
        t.slip(2, 9);
        // 9, 12, 13; the slip of the last one carries none, that of the first one both behind it.
        Check.same("carries(2)", t.carries(2), 0);
        Check.same("carries(1)", t.carries(1), 1);
        Check.same("carries(0)", t.carries(0), 2);
        t.slip(0, 3);
        // 3, 10, 12; or 0, 9, 12: two places away it is lost in the cut.
        Check.same("carries(0), a third is cut", t.carries(0), 1);
        t.give(51, -1);
        Check.same("carries(0), nobody between", t.carries(0), 0);
        Check.same("carries(1), nobody's own", t.carries(1), 0);
    }

    private static void chain() {
        WhiteclothTable t = table(3);
        t.note(0, 50, 1, 'r');
        t.note(1, 50, 1, 'r');
        t.note(2, 50, 1, 'r');
        lates(t, 3, 4, 4);
        t.slip(0, 20);
        lates(t, 23, 10, 6);
        t.slip(2, -30);
        lates(t, 23, 10, -24);
        Check.fails(t, "lateOf(3)", INDEX, () -> t.lateOf(3));
        Check.fails(t, "lateOf(-1)", INDEX, () -> t.lateOf(-1));
    }

    private static void neighbours() {
        WhiteclothTable t = table(0, 0, 0);
        t.note(0, 50, 1, 'r');
        t.note(1, 52, 1, 'r');
        t.note(2, 51, 1, 'r');
        t.note(3, 52, 1, 'r');
        t.slip(0, 30);
        t.slip(1, 12);
        // Player 2 does not hear player 0; player 1 hears both.
        lates(t, 30, 12, 14, 8);
        t.swap(0, 1);
        // Now the places are 1, 0, 2: player 2 hears player 0, player 1 hears player 0 alone.
        lates(t, 30, 22, 10, 17);
    }

    private static void cutTowardsZero() {
        WhiteclothTable t = table(0);
        t.note(0, 50, 1, 'r');
        t.note(1, 50, 1, 'r');
        t.slip(0, -5);
        lates(t, -5, -1);
        t.slip(0, 5);
        lates(t, 5, 1);
        WhiteclothTable u = table(0, 0);
        u.note(0, 50, 1, 'r');
        u.note(0, 51, 1, 'r');
        u.note(1, 51, 1, 'r');
        u.slip(0, 2);
        // The sum is cut, not its parts: 2 and 0, then 2 and 0.
        lates(u, 2, 0, 0);
        u.slip(1, 1);
        lates(u, 2, 1, 1);
    }

    private static void held() {
        WhiteclothTable t = table(3, 3, 3);
        for (int i = 0; i < 4; i++) {
            for (int p = 0; p < 3; p++) {
                t.note(i, 50 + p, 1, 'r');
            }
        }
        for (int i = 0; i < 12; i++) {
            t.slip(i, 50);
        }
        Check.same("lateOf(10)", t.lateOf(10), 99);
        WhiteclothTable u = table(-3, -3, -3);
        for (int i = 0; i < 4; i++) {
            for (int p = 0; p < 3; p++) {
                u.note(i, 50 + p, 1, 'r');
            }
        }
        for (int i = 0; i < 12; i++) {
            u.slip(i, -50);
        }
        Check.same("lateOf(10)", u.lateOf(10), -99);
        for (int i = 1; i < 12; i++) {
            t.slip(i, 0);
            u.slip(i, 0);
        }
        // 53, then 53 / 3 + 3, and so on: nothing is held any more.
        lates(t, 53, 20, 9);
        lates(u, -53, -20, -9);
    }

    private static void heldIsWhatOthersHear() {
        WhiteclothTable t = table(3);
        for (int i = 0; i < 6; i++) {
            t.note(i, 50, 1, 'r');
            t.slip(i, 50);
        }
        // One player alone comes up to 79 only: 53, 53 / 3 + 53, 70 / 3 + 53 ..
        lates(t, 53, 70, 76, 78, 79, 79);
        WhiteclothTable u = table(3, 3, 3);
        for (int i = 0; i < 3; i++) {
            for (int p = 0; p < 3; p++) {
                u.note(i, 50 + p, 1, 'r');
                u.slip(u.notes() - 1, 50);
            }
        }
        u.note(3, 51, 1, 'r');
        // 53, 70, 76 | (53 + 70) / 3 + 53, (94 + 70 + 76) / 3 + 53 held, and so on, till each of three is 99.
        lates(u, 53, 70, 76, 94, 99, 99, 99, 99, 99);
        Check.same("lateOf(9)", u.lateOf(9), 99);
        u.slip(9, -50);
        Check.same("lateOf(9)", u.lateOf(9), 99 + 3 - 50);
    }

    private static void sameTick() {
        WhiteclothTable t = table(0, 0);
        t.note(0, 50, 1, 'r');
        t.note(0, 51, 1, 'r');
        t.slip(0, 9);
        lates(t, 9, 3);
        t.slip(0, 0);
        t.slip(1, 9);
        lates(t, 0, 9);
    }

    private static void notOwned() {
        WhiteclothTable t = table(0, 0);
        t.note(0, 50, 1, 'r');
        t.note(1, 51, 1, 'r');
        t.slip(0, 9);
        t.give(50, -1);
        Check.fails(t, "lateOf(0)", NONE, () -> t.lateOf(0));
        Check.same("lateOf(1)", t.lateOf(1), 0);
        Check.same("carries(0)", t.carries(0), 0);
        Check.same("mostLate()", t.mostLate(), 1);
        t.give(50, 0);
        t.slip(1, 5);
        Check.same("carries(0), given again", t.carries(0), 1);
        t.give(50, -1);
        t.give(51, -1);
        Check.same("carries(0), nobody's again", t.carries(0), 0);
        Check.same("carries(1), nobody's again", t.carries(1), 0);
    }

    private static void mostLate() {
        WhiteclothTable t = table(0, 0);
        Check.fails(t, "mostLate() of none", NONE, () -> t.mostLate());
        t.note(0, 50, 1, 'r');
        t.note(10, 50, 1, 'r');
        t.note(20, 51, 1, 'r');
        Check.same("mostLate() of zeros", t.mostLate(), 0);
        t.slip(0, 6);
        t.slip(1, -20);
        // 6, -18, -6
        Check.same("mostLate(), early", t.mostLate(), 1);
        t.slip(0, 18);
        t.slip(1, -24);
        Check.same("mostLate(), of like ones", t.mostLate(), 0);
        t.give(50, -1);
        Check.same("mostLate(), not owned", t.mostLate(), 2);
        t.give(51, -1);
        Check.fails(t, "mostLate() of nobody's", NONE, () -> t.mostLate());
    }

    private static void carries() {
        WhiteclothTable t = table(0, 0, 0);
        t.note(0, 50, 1, 'r');
        t.note(1, 51, 1, 'r');
        t.note(2, 52, 1, 'r');
        t.note(3, 52, 1, 'r');
        Check.same("carries(0) without a slip", t.carries(0), 0);
        t.slip(0, 27);
        // 27, 9, 3, (9 and 3) / 3 = 4
        lates(t, 27, 9, 3, 4);
        Check.same("carries(0)", t.carries(0), 3);
        t.slip(0, 3);
        lates(t, 3, 1, 0, 0);
        Check.same("carries(0)", t.carries(0), 1);
        t.slip(0, 2);
        Check.same("carries(0)", t.carries(0), 0);
        t.slip(3, 50);
        Check.same("carries(3)", t.carries(3), 0);
        Check.same("slip(3), still there", t.slip(3, 0), 50);
        t.slip(0, 3);
        t.drop(1);
        t.slip(1, 2);
        t.note(4, 51, 1, 'r');
        // 3, 2, 2 / 3 = 0, (3 + 0) / 3 = 1; without the slip of the first one the last one is 0.
        lates(t, 3, 2, 0, 1);
        Check.same("carries(0)", t.carries(0), 1);
        t.slip(2, 2);
        // 3, 2, 2, (3 + 2) / 3 = 1, or 2 / 3 = 0.
        Check.same("carries(0)", t.carries(0), 1);
        Check.same("carries(1)", t.carries(1), 0);
        Check.fails(t, "carries(4)", INDEX, () -> t.carries(4));
        Check.fails(t, "carries(-1)", INDEX, () -> t.carries(-1));
    }
}
