import java.util.NoSuchElementException;

/** Promises 19 and 20: the best deal, and the fewest players. */
final class DealsTest {
    private static final Class<NoSuchElementException> NONE = NoSuchElementException.class;

    public static void main(String[] args) {
        withoutNotes();
        withoutPlayers();
        otherBellsAreNobodys();
        fewestPlayersOfLikeChanges();
        morePlayersForFewerChanges();
        firstPlayerGetsTheMost();
        placesNotNumbers();
        strengthBounds();
        weakPlayerCannotBeLeftOut();
        noPlanForAnyone();
        refusedDealChangesNothing();
        sixtyBells();
        Check.end("DealsTest");
    }

    private static WhiteclothTable table(int... strengths) {
        WhiteclothTable t = new WhiteclothTable();
        for (int strength : strengths) {
            t.addPlayer(strength, 0);
        }
        for (int pitch = 0; pitch < 60; pitch++) {
            t.setBell(pitch, true);
        }
        return t;
    }

    private static void owners(WhiteclothTable t, int firstPitch, int... due) {
        for (int i = 0; i < due.length; i++) {
            Check.same("ownerOf " + (firstPitch + i), t.ownerOf(firstPitch + i), due[i]);
        }
    }

    private static void withoutNotes() {
        WhiteclothTable t = table();
        Check.same("fewest()", t.fewest(), 0);
        Check.same("deal()", t.deal(), 0);
        t.addPlayer(9, 0);
        t.give(5, 0);
        Check.same("fewest()", t.fewest(), 0);
        Check.same("ownerOf(5)", t.ownerOf(5), 0);
        Check.same("deal()", t.deal(), 0);
        Check.same("ownerOf(5)", t.ownerOf(5), -1);
    }

    private static void withoutPlayers() {
        WhiteclothTable t = table();
        t.note(0, 59, 1, 'r');
        Check.fails(t, "deal()", NONE, () -> t.deal());
        Check.fails(t, "fewest()", NONE, () -> t.fewest());
    }

    private static void otherBellsAreNobodys() {
        WhiteclothTable t = table(9, 9);
        t.give(10, 1);
        t.give(30, 1);
        t.note(0, 30, 1, 'r');
        Check.same("deal()", t.deal(), 0);
        Check.same("ownerOf(10)", t.ownerOf(10), -1);
        Check.same("ownerOf(30)", t.ownerOf(30), 0);
    }

    private static void fewestPlayersOfLikeChanges() {
        WhiteclothTable t = table(9, 9);
        t.note(0, 30, 1, 'r');
        t.note(0, 31, 1, 'r');
        Check.same("deal()", t.deal(), 0);
        owners(t, 30, 0, 0);
        Check.same("fewest()", t.fewest(), 1);
    }

    private static void morePlayersForFewerChanges() {
        WhiteclothTable t = table(9, 9, 9);
        for (int i = 0; i < 6; i++) {
            t.note(10 * i, 30 + i % 3, 1, 'r');
        }
        // One player could ring all three bells, with changes; two need none.
        Check.same("fewest()", t.fewest(), 1);
        Check.same("deal()", t.deal(), 0);
        owners(t, 30, 0, 0, 1);
        Check.same("fewest(), dealt", t.fewest(), 1);
    }

    private static void firstPlayerGetsTheMost() {
        WhiteclothTable t = table(9, 9, 9);
        for (int i = 0; i < 5; i++) {
            t.note(10 * i, 30 + i, 1, 'r');
        }
        Check.same("deal()", t.deal(), 0);
        owners(t, 30, 0, 0, 1, 1, 2);
        t.note(60, 35, 1, 'r');
        t.note(70, 36, 1, 'r');
        // Seven bells for six hands: one change, which the first player gets.
        Check.same("deal()", t.deal(), 1);
        owners(t, 30, 0, 0, 0, 1, 1, 2, 2);
    }

    private static void placesNotNumbers() {
        WhiteclothTable t = table(9, 9, 9);
        t.swap(0, 2);
        for (int i = 0; i < 3; i++) {
            t.note(10 * i, 30 + i, 1, 'r');
        }
        Check.same("deal()", t.deal(), 0);
        owners(t, 30, 2, 2, 1);
    }

    private static void strengthBounds() {
        WhiteclothTable t = table(1, 9);
        t.note(0, 53, 1, 'r');
        Check.same("deal()", t.deal(), 0);
        owners(t, 53, 0);
        t.note(0, 52, 1, 'r');
        Check.fails(t, "deal() too heavy", NONE, () -> t.deal());
        Check.fails(t, "fewest() too heavy", NONE, () -> t.fewest());
        t.swap(0, 1);
        Check.same("fewest()", t.fewest(), 1);
        Check.same("deal()", t.deal(), 0);
        owners(t, 52, 1, 1);
        t.note(0, 54, 1, 'r');
        Check.same("fewest()", t.fewest(), 2);
        Check.same("deal()", t.deal(), 0);
        owners(t, 52, 1, 1, 0);
    }

    private static void weakPlayerCannotBeLeftOut() {
        WhiteclothTable t = table(9, 1, 9);
        t.note(0, 10, 9, 'r');
        t.note(0, 11, 9, 'r');
        t.note(0, 12, 9, 'r');
        Check.fails(t, "deal()", NONE, () -> t.deal());
        Check.fails(t, "fewest()", NONE, () -> t.fewest());
        t.swap(1, 2);
        Check.same("deal()", t.deal(), 0);
        owners(t, 10, 0, 0, 2);
    }

    private static void noPlanForAnyone() {
        WhiteclothTable t = table(9);
        t.note(0, 30, 4, 'r');
        t.note(0, 31, 4, 'r');
        t.note(5, 32, 4, 'r');
        Check.fails(t, "deal() at rest 2", NONE, () -> t.deal());
        t.setRest(1);
        Check.same("deal() at rest 1", t.deal(), 1);
        owners(t, 30, 0, 0, 0);
    }

    private static void refusedDealChangesNothing() {
        WhiteclothTable t = table(9);
        t.give(20, 0);
        t.note(0, 30, 4, 'r');
        t.note(0, 31, 4, 'r');
        t.note(0, 32, 4, 'r');
        Check.fails(t, "deal()", NONE, () -> t.deal());
        Check.same("ownerOf(20)", t.ownerOf(20), 0);
    }

    private static void sixtyBells() {
        WhiteclothTable t = table(9, 9, 9, 9, 9, 9, 9, 9, 9, 9, 9, 9);
        t.setRest(0);
        for (int pitch = 0; pitch < 60; pitch++) {
            t.note(5 * pitch, pitch, 5, 'r');
        }
        // Each bell once: so many changes as bells beyond two for each of twelve players.
        Check.same("deal()", t.deal(), 36);
        Check.same("ownerOf(0)", t.ownerOf(0), 0);
        Check.same("ownerOf(59)", t.ownerOf(59), 11);
        Check.same("ownerOf(37)", t.ownerOf(37), 0);
        Check.same("ownerOf(38)", t.ownerOf(38), 1);
        Check.same("ownerOf(57)", t.ownerOf(57), 10);
        Check.same("ownerOf(58)", t.ownerOf(58), 11);
        Check.same("fewest()", t.fewest(), 1);
        Check.yes("isTrue()", t.isTrue());
    }
}
