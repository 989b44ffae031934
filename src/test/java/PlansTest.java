import java.util.NoSuchElementException;

/** Promises 15 to 18: plans, their changes and hands, loads. */
final class PlansTest {
    private static final Class<NoSuchElementException> NONE = NoSuchElementException.class;
    private static final Class<IndexOutOfBoundsException> INDEX = IndexOutOfBoundsException.class;

    public static void main(String[] args) {
        noPlayers();
        noNotes();
        oneNote();
        restDecides();
        everyRestToTheTick();
        restAtFirst();
        sameBellNeedsNoRest();
        likeAgainBehindAnother();
        threeAtOnce();
        threeMeetInOneTick();
        fewestChanges();
        changesCountEachHand();
        oneNoteLaterDecides();
        tiesGoToHandZero();
        tiesWhereTheFirstDifferenceCounts();
        notOwned();
        othersNotesDoNotMatter();
        sixtyNotesOfOnePlayer();
        loads();
        Check.end("PlansTest");
    }

    /** A table with bells 40 to 59, and one strong player who has them all. */
    private static WhiteclothTable table() {
        WhiteclothTable t = new WhiteclothTable();
        t.addPlayer(9, 0);
        for (int pitch = 40; pitch < 60; pitch++) {
            t.setBell(pitch, true);
            t.give(pitch, 0);
        }
        return t;
    }

    private static void hands(WhiteclothTable t, int... due) {
        for (int i = 0; i < due.length; i++) {
            Check.same("handOf " + i, t.handOf(i), due[i]);
        }
    }

    private static void noPlayers() {
        WhiteclothTable t = new WhiteclothTable();
        Check.fails(t, "hasPlan(0)", INDEX, () -> t.hasPlan(0));
        Check.fails(t, "changes(0)", INDEX, () -> t.changes(0));
        Check.fails(t, "loadOf(0)", INDEX, () -> t.loadOf(0));
        Check.fails(t, "handOf(0)", INDEX, () -> t.handOf(0));
        Check.fails(t, "hasPlan(-1)", INDEX, () -> t.hasPlan(-1));
        Check.fails(t, "changes(-1)", INDEX, () -> t.changes(-1));
        Check.fails(t, "loadOf(-1)", INDEX, () -> t.loadOf(-1));
        Check.fails(t, "handOf(-1)", INDEX, () -> t.handOf(-1));
    }

    private static void noNotes() {
        WhiteclothTable t = table();
        Check.yes("hasPlan(0)", t.hasPlan(0));
        Check.same("changes(0)", t.changes(0), 0);
        Check.same("loadOf(0)", t.loadOf(0), 0);
    }

    private static void restDecides() {
        WhiteclothTable t = table();
        t.note(0, 40, 10, 'r');
        t.note(0, 41, 10, 'r');
        t.note(12, 42, 1, 'r');
        Check.yes("hasPlan(0) at rest 2", t.hasPlan(0));
        Check.same("changes(0)", t.changes(0), 1);
        hands(t, 0, 1, 0);
        t.setRest(3);
        Check.no("hasPlan(0) at rest 3", t.hasPlan(0));
        Check.fails(t, "changes(0)", NONE, () -> t.changes(0));
        Check.fails(t, "handOf(2)", NONE, () -> t.handOf(2));
        t.setRest(0);
        t.note(10, 43, 1, 'r');
        Check.yes("hasPlan(0) at rest 0", t.hasPlan(0));
        Check.same("changes(0)", t.changes(0), 2);
    }

    private static void oneNote() {
        WhiteclothTable t = table();
        t.note(400, 59, 64, 'e');
        Check.yes("hasPlan(0)", t.hasPlan(0));
        Check.same("changes(0)", t.changes(0), 0);
        Check.same("handOf(0)", t.handOf(0), 0);
        Check.same("loadOf(0)", t.loadOf(0), 1);
    }

    /** Hand 0 is held by a long note, so that hand 1 has to go on with another bell. */
    private static void everyRestToTheTick() {
        for (int rest = 0; rest <= 8; rest++) {
            for (int behind = 0; behind <= 9; behind++) {
                WhiteclothTable t = table();
                t.setRest(rest);
                t.note(0, 40, 64, 'r');
                t.note(1, 41, 5, 'r');
                t.note(6 + behind, 42, 1, 'r');
                String when = "hasPlan at rest " + rest + ", " + behind + " behind the end";
                Check.same(when, t.hasPlan(0) ? 1 : 0, behind >= rest ? 1 : 0);
                if (behind >= rest) {
                    hands(t, 0, 1, 1);
                    Check.same("changes(0)", t.changes(0), 1);
                }
            }
            WhiteclothTable t = table();
            t.setRest(rest);
            t.note(0, 40, 64, 'r');
            t.note(1, 41, 5, 'r');
            t.note(5, 42, 1, 'r');
            Check.no("hasPlan at rest " + rest + ", in the last tick", t.hasPlan(0));
        }
    }

    private static void restAtFirst() {
        WhiteclothTable t = table();
        t.note(0, 40, 64, 'r');
        t.note(0, 41, 5, 'r');
        t.note(7, 42, 1, 'r');
        Check.yes("hasPlan(0), 2 ticks behind", t.hasPlan(0));
        t.drop(2);
        t.note(6, 42, 1, 'r');
        Check.no("hasPlan(0), 1 tick behind", t.hasPlan(0));
        Check.same("setRest(1)", t.setRest(1), 2);
        Check.yes("hasPlan(0), 1 tick behind at rest 1", t.hasPlan(0));
    }

    /** The rest hangs on the note ahead in the hand alone, not on an earlier one of the same bell. */
    private static void likeAgainBehindAnother() {
        WhiteclothTable t = table();
        t.setRest(3);
        t.note(0, 40, 40, 'r');
        t.note(0, 41, 2, 'r');
        t.note(2, 41, 2, 'r');
        t.note(7, 42, 2, 'r');
        t.note(12, 41, 2, 'r');
        Check.same("changes(0)", t.changes(0), 2);
        hands(t, 0, 1, 1, 1, 1);
        t.setRest(4);
        Check.no("hasPlan(0) at rest 4", t.hasPlan(0));
        t.drop(3);
        Check.same("changes(0) of one bell in each hand", t.changes(0), 0);
    }

    private static void threeMeetInOneTick() {
        WhiteclothTable t = table();
        t.setRest(0);
        t.note(0, 40, 6, 'r');
        t.note(1, 41, 5, 'r');
        t.note(5, 42, 1, 'r');
        Check.no("hasPlan(0), three in tick 5", t.hasPlan(0));
        t.drop(2);
        t.note(6, 42, 1, 'r');
        Check.yes("hasPlan(0), two in tick 5", t.hasPlan(0));
        hands(t, 0, 1, 0);
        t.note(6, 43, 1, 'r');
        Check.same("changes(0)", t.changes(0), 2);
        hands(t, 0, 1, 0, 1);
        t.note(6, 44, 1, 'd');
        Check.no("hasPlan(0), three from tick 6 on", t.hasPlan(0));
    }

    private static void changesCountEachHand() {
        WhiteclothTable t = table();
        t.setRest(0);
        int[] due = {0, 0, 2, 4, 6};
        for (int i = 0; i < 4; i++) {
            t.note(5 * i, 40 + 2 * i, 5, 'r');
            t.note(5 * i, 41 + 2 * i, 5, 'r');
            Check.same("changes(0), twos: " + (i + 1), t.changes(0), due[i + 1]);
        }
        hands(t, 0, 1, 0, 1, 0, 1, 0, 1);
        t.note(20, 46, 1, 'r');
        t.note(20, 47, 1, 'r');
        Check.same("changes(0), both go on with their bells", t.changes(0), 6);
    }

    /** Keeping hand 0 free for bell 41, told later, changes the hands of what is ahead. */
    private static void oneNoteLaterDecides() {
        WhiteclothTable t = table();
        t.note(0, 40, 2, 'r');
        t.note(10, 41, 2, 'r');
        t.note(20, 42, 2, 'r');
        hands(t, 0, 0, 1);
        t.note(30, 41, 2, 'r');
        hands(t, 0, 0, 1, 0);
        t.note(40, 40, 2, 'r');
        Check.same("changes(0)", t.changes(0), 2);
        hands(t, 0, 0, 1, 0, 0);
        t.drop(3);
        Check.same("changes(0)", t.changes(0), 1);
        hands(t, 0, 1, 1, 0);
    }

    /** Both (0, 0, 1, 1) and (0, 1, 1, 0) have one change: the second note decides, whatever the last one has. */
    private static void tiesWhereTheFirstDifferenceCounts() {
        WhiteclothTable t = table();
        t.note(0, 40, 1, 'r');
        t.note(10, 41, 1, 'r');
        t.note(20, 42, 1, 'r');
        t.note(30, 42, 1, 'r');
        Check.same("changes(0)", t.changes(0), 1);
        hands(t, 0, 0, 1, 1);
        WhiteclothTable u = table();
        u.setRest(0);
        u.note(0, 40, 10, 'r');
        u.note(5, 41, 5, 'r');
        u.note(10, 42, 5, 'r');
        u.note(12, 43, 5, 'r');
        // Both hands go on with other bells: the third note may take either, and takes hand 0.
        Check.same("changes(0)", u.changes(0), 2);
        hands(u, 0, 1, 0, 1);
    }

    private static void othersNotesDoNotMatter() {
        WhiteclothTable t = table();
        t.addPlayer(9, 0);
        t.setRest(8);
        for (int i = 0; i < 10; i++) {
            t.give(50 + i, i < 5 ? 1 : -1);
            t.note(0, 50 + i, 64, 'r');
        }
        t.note(0, 40, 3, 'r');
        t.note(1, 41, 3, 'r');
        Check.yes("hasPlan(0) beside a player without one", t.hasPlan(0));
        Check.no("hasPlan(1)", t.hasPlan(1));
        Check.same("changes(0)", t.changes(0), 0);
        Check.same("handOf(0)", t.handOf(0), 0);
        Check.same("handOf(11)", t.handOf(11), 1);
        Check.fails(t, "changes(1)", NONE, () -> t.changes(1));
        Check.fails(t, "handOf(1) of player 1", NONE, () -> t.handOf(1));
        Check.fails(t, "handOf(10) of nobody", NONE, () -> t.handOf(10));
    }

    private static void sameBellNeedsNoRest() {
        WhiteclothTable t = table();
        t.setRest(8);
        t.note(0, 40, 4, 'r');
        t.note(0, 41, 4, 'r');
        t.note(4, 40, 4, 'r');
        t.note(4, 41, 4, 'r');
        Check.same("changes(0)", t.changes(0), 0);
        hands(t, 0, 1, 0, 1);
    }

    private static void threeAtOnce() {
        WhiteclothTable t = table();
        t.setRest(0);
        t.note(0, 40, 5, 'r');
        t.note(2, 41, 5, 'r');
        t.note(4, 42, 1, 'r');
        Check.no("hasPlan(0)", t.hasPlan(0));
        t.addPlayer(9, 0);
        Check.yes("hasPlan(1) without notes", t.hasPlan(1));
        Check.no("hasPlan(0)", t.hasPlan(0));
        Check.same("changes(1) without notes", t.changes(1), 0);
        t.give(42, 1);
        Check.yes("hasPlan(0)", t.hasPlan(0));
        Check.yes("hasPlan(1)", t.hasPlan(1));
        hands(t, 0, 1, 0);
        t.give(41, 1);
        hands(t, 0, 0, 1);
    }

    private static void fewestChanges() {
        WhiteclothTable t = table();
        t.note(0, 40, 1, 'r');
        t.note(10, 41, 1, 'r');
        t.note(20, 42, 1, 'r');
        t.note(30, 40, 1, 'r');
        t.note(40, 42, 1, 'r');
        t.note(50, 40, 1, 'r');
        // 40 in one hand; 41, then 42 in the other.
        Check.same("changes(0)", t.changes(0), 1);
        hands(t, 0, 1, 1, 0, 1, 0);
    }

    private static void tiesGoToHandZero() {
        WhiteclothTable t = table();
        t.note(0, 40, 1, 'r');
        Check.same("handOf(0)", t.handOf(0), 0);
        t.note(10, 41, 1, 'r');
        hands(t, 0, 1);
        t.note(20, 42, 1, 'r');
        // One change wherever the hands part: the second note goes to hand 0.
        Check.same("changes(0)", t.changes(0), 1);
        hands(t, 0, 0, 1);
        t.note(30, 43, 1, 'r');
        // Two changes at least; the second note in hand 0 already has one of them.
        Check.same("changes(0)", t.changes(0), 2);
        hands(t, 0, 0, 0, 1);
    }

    private static void notOwned() {
        WhiteclothTable t = table();
        t.note(0, 40, 1, 'r');
        t.give(40, -1);
        Check.fails(t, "handOf(0)", NONE, () -> t.handOf(0));
        Check.fails(t, "handOf(1)", INDEX, () -> t.handOf(1));
        Check.yes("hasPlan(0)", t.hasPlan(0));
        Check.same("loadOf(0)", t.loadOf(0), 0);
    }

    private static void sixtyNotesOfOnePlayer() {
        WhiteclothTable t = table();
        for (int i = 0; i < 60; i++) {
            t.note(6 * i, 40 + i % 3, 1, 'r');
        }
        // Two hands for three bells in turn: a change at every other note, from the third one on.
        Check.same("changes(0)", t.changes(0), 29);
        Check.yes("isTrue()", t.isTrue());
        t.setRest(5);
        Check.same("changes(0)", t.changes(0), 29);
    }

    private static void loads() {
        WhiteclothTable t = new WhiteclothTable();
        t.addPlayer(9, 0);
        t.addPlayer(9, 0);
        int sum = 0;
        for (int pitch = 0; pitch < 60; pitch++) {
            t.setBell(pitch, true);
            t.give(pitch, pitch % 2);
            t.note(pitch, pitch, 3, 'd');
            if (pitch % 2 == 1) {
                sum += 1 + (59 - pitch) / 7;
            }
        }
        Check.same("loadOf(1)", t.loadOf(1), sum);
        t.drop(59);
        Check.same("loadOf(1)", t.loadOf(1), sum - 1);
        t.drop(1);
        Check.same("loadOf(1)", t.loadOf(1), sum - 1 - 9);
        t.note(200, 3, 1, 'r');
        Check.same("loadOf(1) with two notes of a bell", t.loadOf(1), sum - 1 - 9 + 9);
    }
}
