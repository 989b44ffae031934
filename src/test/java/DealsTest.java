import java.util.NoSuchElementException;

/** Promises 19 and 20: the best deal, and the fewest players. */
final class DealsTest {
    private static final Class<NoSuchElementException> NONE = NoSuchElementException.class;

    public static void main(String[] args) {
        withoutNotes();
        withoutPlayers();
        otherBellsAreNobodys();
        fewestPlayersOfLikeChanges();
        morePlayersForFewerChanges();
        firstPlayerGetsTheMost();
        secondPlayerGetsTheMost();
        fewestPlayersAheadOfTheMost();
        placesNotNumbers();
        strengthBounds();
        everyStrengthToTheWeight();
        eachOneGetsOneAtLeast();
        bellsNotNotesAreDealt();
        weakPlayerCannotBeLeftOut();
        weakPlayerGetsTheLast();
        noPlanForAnyone();
        restDecides();
        fewestIsNotTheBestDeal();
        fewestChangesNothing();
        refusedDealChangesNothing();
        dealtAgain();
        sixtyBells();
        Check.end("DealsTest");
    }

    private static WhiteclothTable table(int... strengths) {
        WhiteclothTable t = new WhiteclothTable();
        for (int strength : strengths) {
            t.addPlayer(strength, 0);
        }
        for (int pitch = 0; pitch < 60; pitch++) {
            t.setBell(pitch, true);
        }
        return t;
    }

    private static void owners(WhiteclothTable t, int firstPitch, int... due) {
        for (int i = 0; i < due.length; i++) {
            Check.same("ownerOf " + (firstPitch + i), t.ownerOf(firstPitch + i), due[i]);
        }
    }

    private static void withoutNotes() {
        WhiteclothTable t = table();
        Check.same("fewest()", t.fewest(), 0);
        Check.same("deal()", t.deal(), 0);
        t.addPlayer(9, 0);
        t.give(5, 0);
        Check.same("fewest()", t.fewest(), 0);
        Check.same("ownerOf(5)", t.ownerOf(5), 0);
        Check.same("deal()", t.deal(), 0);
        Check.same("ownerOf(5)", t.ownerOf(5), -1);
    }

    private static void withoutPlayers() {
        WhiteclothTable t = table();
        t.note(0, 59, 1, 'r');
        Check.fails(t, "deal()", NONE, () -> t.deal());
        Check.fails(t, "fewest()", NONE, () -> t.fewest());
    }

    private static void otherBellsAreNobodys() {
        WhiteclothTable t = table(9, 9);
        t.give(10, 1);
        t.give(30, 1);
        t.note(0, 30, 1, 'r');
        Check.same("deal()", t.deal(), 0);
        Check.same("ownerOf(10)", t.ownerOf(10), -1);
        Check.same("ownerOf(30)", t.ownerOf(30), 0);
    }

    private static void fewestPlayersOfLikeChanges() {
        WhiteclothTable t = table(9, 9);
        t.note(0, 30, 1, 'r');
        t.note(0, 31, 1, 'r');
        Check.same("deal()", t.deal(), 0);
        owners(t, 30, 0, 0);
        Check.same("fewest()", t.fewest(), 1);
    }

    private static void morePlayersForFewerChanges() {
        WhiteclothTable t = table(9, 9, 9);
        for (int i = 0; i < 6; i++) {
            t.note(10 * i, 30 + i % 3, 1, 'r');
        }
        // One player could ring all three bells, with changes; two need none.
        Check.same("fewest()", t.fewest(), 1);
        Check.same("deal()", t.deal(), 0);
        owners(t, 30, 0, 0, 1);
        Check.same("fewest(), dealt", t.fewest(), 1);
    }

    private static void firstPlayerGetsTheMost() {
        WhiteclothTable t = table(9, 9, 9);
        for (int i = 0; i < 5; i++) {
            t.note(10 * i, 30 + i, 1, 'r');
        }
        Check.same("deal()", t.deal(), 0);
        owners(t, 30, 0, 0, 1, 1, 2);
        t.note(60, 35, 1, 'r');
        t.note(70, 36, 1, 'r');
        // Seven bells for six hands: one change, which the first player gets.
        Check.same("deal()", t.deal(), 1);
        owners(t, 30, 0, 0, 0, 1, 1, 2, 2);
    }

    /** Three at once hold the first player to two bells, and five more need a change: the second one gets it. */
    private static void secondPlayerGetsTheMost() {
        WhiteclothTable t = table(9, 9, 9);
        for (int i = 0; i < 3; i++) {
            t.note(0, 30 + i, 1, 'r');
        }
        for (int i = 3; i < 7; i++) {
            t.note(10 * i, 30 + i, 1, 'r');
        }
        Check.same("deal()", t.deal(), 1);
        owners(t, 30, 0, 0, 1, 1, 1, 2, 2);
        Check.same("fewest()", t.fewest(), 2);
    }

    /** Two players with two bells each, not one, two and one, nor three with two, one and one. */
    private static void fewestPlayersAheadOfTheMost() {
        WhiteclothTable t = table(9, 9, 9, 9);
        for (int i = 0; i < 4; i++) {
            t.note(10 * i, 30 + i, 1, 'r');
        }
        Check.same("deal()", t.deal(), 0);
        owners(t, 30, 0, 0, 1, 1);
        t.note(0, 34, 1, 'r');
        Check.same("deal()", t.deal(), 0);
        owners(t, 30, 0, 0, 1, 1, 2);
    }

    private static void everyStrengthToTheWeight() {
        for (int weight = 1; weight <= 9; weight++) {
            int pitch = Traces.HEAVIEST[9 - weight];
            for (int strength = 1; strength <= 9; strength++) {
                WhiteclothTable t = Tables.withBells(pitch);
                t.addPlayer(strength, 0);
                t.note(0, pitch, 1, 'r');
                String call = "deal() of a weight of " + weight + " to a strength of " + strength;
                if (strength < weight) {
                    Check.fails(t, call, NONE, () -> t.deal());
                    Check.fails(t, "fewest, " + call, NONE, () -> t.fewest());
                    Check.same("ownerOf, " + call, t.ownerOf(pitch), -1);
                } else {
                    Check.same("fewest, " + call, t.fewest(), 1);
                    Check.same(call, t.deal(), 0);
                    Check.same("ownerOf, " + call, t.ownerOf(pitch), 0);
                }
            }
        }
    }

    /** More players than bells: those behind the last one who gets some have none, even the strong ones. */
    private static void eachOneGetsOneAtLeast() {
        WhiteclothTable t = table(9, 9, 9, 9);
        t.note(0, 30, 1, 'r');
        Check.same("deal() of one bell", t.deal(), 0);
        owners(t, 29, -1, 0, -1);
        for (int player = 1; player < 4; player++) {
            Check.same("loadOf " + player, t.loadOf(player), 0);
        }
        Check.same("fewest()", t.fewest(), 1);
        t.note(0, 31, 1, 'r');
        t.note(0, 32, 1, 'r');
        Check.same("deal() of three bells at once", t.deal(), 0);
        owners(t, 30, 0, 0, 1);
        Check.same("loadOf(2)", t.loadOf(2), 0);
    }

    /** Six notes of two bells are two bells: one player has both, without a change. */
    private static void bellsNotNotesAreDealt() {
        WhiteclothTable t = table(9, 9);
        for (int i = 0; i < 6; i++) {
            t.note(i, 30 + 5 * (i % 2), 1, 'r');
        }
        Check.same("deal()", t.deal(), 0);
        owners(t, 30, 0, -1, -1, -1, -1, 0);
        Check.same("loadOf(0)", t.loadOf(0), 3 * 5 + 3 * 4);
        Check.same("loadOf(1)", t.loadOf(1), 0);
    }

    /** The second place is so weak that the first one has to ring all but the lightest bell. */
    private static void weakPlayerGetsTheLast() {
        WhiteclothTable t = table(9, 1, 9);
        for (int i = 0; i < 4; i++) {
            t.note(10 * i, 50 + i, 1, 'r');
        }
        Check.same("deal()", t.deal(), 1);
        owners(t, 50, 0, 0, 0, 1);
        t.swap(1, 2);
        Check.same("deal(), the weak one last", t.deal(), 0);
        owners(t, 50, 0, 0, 2, 2);
    }

    private static void restDecides() {
        for (int rest = 0; rest <= 8; rest++) {
            WhiteclothTable t = table(9, 9);
            t.setRest(rest);
            t.note(0, 30, 9, 'r');
            t.note(0, 31, 5, 'r');
            t.note(5 + rest, 32, 9, 'r');
            Check.same("fewest() at rest " + rest, t.fewest(), 1);
            if (rest < 8) {
                t.setRest(rest + 1);
                Check.same("fewest() at one more than " + rest, t.fewest(), 2);
            }
            Check.same("deal()", t.deal(), 0);
            owners(t, 30, 0, 0, 1);
        }
    }

    /** The best deal has three players for no change, yet one could do it with more. */
    private static void fewestIsNotTheBestDeal() {
        WhiteclothTable t = table(9, 9, 9, 9);
        for (int i = 0; i < 6; i++) {
            t.note(10 * i, 30 + i, 1, 'r');
        }
        Check.same("fewest()", t.fewest(), 1);
        Check.same("deal()", t.deal(), 0);
        owners(t, 30, 0, 0, 1, 1, 2, 2);
        t.note(0, 31, 1, 'r');
        t.note(0, 32, 1, 'r');
        // Now 30, 31 and 32 meet at tick 0.
        Check.same("fewest(), three at once", t.fewest(), 2);
        Check.same("deal()", t.deal(), 0);
    }

    private static void fewestChangesNothing() {
        WhiteclothTable t = table(9, 9);
        t.note(0, 30, 1, 'r');
        t.note(0, 31, 1, 'r');
        t.give(31, 1);
        t.give(10, 1);
        Check.same("fewest()", t.fewest(), 1);
        owners(t, 30, -1, 1);
        Check.same("ownerOf(10)", t.ownerOf(10), 1);
    }

    private static void dealtAgain() {
        WhiteclothTable t = table(9, 9, 9);
        t.note(0, 30, 1, 's');
        t.note(0, 31, 1, 's');
        t.note(0, 32, 1, 's');
        Check.same("deal()", t.deal(), 0);
        Check.same("perform()", t.perform(), 9);
        long before = t.checksum();
        Check.same("deal() again", t.deal(), 0);
        Check.same("checksum()", t.checksum(), before);
        t.swap(0, 2);
        Check.same("deal(), the places changed", t.deal(), 0);
        owners(t, 30, 2, 2, 1);
        Check.same("strokesOf(30)", t.strokesOf(30), 3);
        t.drop(0);
        Check.same("deal(), a bell less", t.deal(), 0);
        owners(t, 30, -1, 2, 2);
        Check.same("strokesOf(30)", t.strokesOf(30), 3);
    }

    private static void placesNotNumbers() {
        WhiteclothTable t = table(9, 9, 9);
        t.swap(0, 2);
        for (int i = 0; i < 3; i++) {
            t.note(10 * i, 30 + i, 1, 'r');
        }
        Check.same("deal()", t.deal(), 0);
        owners(t, 30, 2, 2, 1);
    }

    private static void strengthBounds() {
        WhiteclothTable t = table(1, 9);
        t.note(0, 53, 1, 'r');
        Check.same("deal()", t.deal(), 0);
        owners(t, 53, 0);
        t.note(0, 52, 1, 'r');
        Check.fails(t, "deal() too heavy", NONE, () -> t.deal());
        Check.fails(t, "fewest() too heavy", NONE, () -> t.fewest());
        t.swap(0, 1);
        Check.same("fewest()", t.fewest(), 1);
        Check.same("deal()", t.deal(), 0);
        owners(t, 52, 1, 1);
        t.note(0, 54, 1, 'r');
        Check.same("fewest()", t.fewest(), 2);
        Check.same("deal()", t.deal(), 0);
        owners(t, 52, 1, 1, 0);
    }

    private static void weakPlayerCannotBeLeftOut() {
        WhiteclothTable t = table(9, 1, 9);
        t.note(0, 10, 9, 'r');
        t.note(0, 11, 9, 'r');
        t.note(0, 12, 9, 'r');
        Check.fails(t, "deal()", NONE, () -> t.deal());
        Check.fails(t, "fewest()", NONE, () -> t.fewest());
        t.swap(1, 2);
        Check.same("deal()", t.deal(), 0);
        owners(t, 10, 0, 0, 2);
    }

    private static void noPlanForAnyone() {
        WhiteclothTable t = table(9);
        t.note(0, 30, 4, 'r');
        t.note(0, 31, 4, 'r');
        t.note(5, 32, 4, 'r');
        Check.fails(t, "deal() at rest 2", NONE, () -> t.deal());
        t.setRest(1);
        Check.same("deal() at rest 1", t.deal(), 1);
        owners(t, 30, 0, 0, 0);
    }

    private static void refusedDealChangesNothing() {
        WhiteclothTable t = table(9);
        t.give(20, 0);
        t.note(0, 30, 4, 'r');
        t.note(0, 31, 4, 'r');
        t.note(0, 32, 4, 'r');
        Check.fails(t, "deal()", NONE, () -> t.deal());
        Check.same("ownerOf(20)", t.ownerOf(20), 0);
    }

    private static void sixtyBells() {
        WhiteclothTable t = table(9, 9, 9, 9, 9, 9, 9, 9, 9, 9, 9, 9);
        t.setRest(0);
        for (int pitch = 0; pitch < 60; pitch++) {
            t.note(5 * pitch, pitch, 5, 'r');
        }
        // Each bell once: so many changes as bells beyond two for each of twelve players.
        Check.same("deal()", t.deal(), 36);
        Check.same("ownerOf(0)", t.ownerOf(0), 0);
        Check.same("ownerOf(59)", t.ownerOf(59), 11);
        Check.same("ownerOf(37)", t.ownerOf(37), 0);
        Check.same("ownerOf(38)", t.ownerOf(38), 1);
        Check.same("ownerOf(57)", t.ownerOf(57), 10);
        Check.same("ownerOf(58)", t.ownerOf(58), 11);
        Check.same("fewest()", t.fewest(), 1);
        Check.yes("isTrue()", t.isTrue());
    }
}
