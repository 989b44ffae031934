import java.util.NoSuchElementException;

/** What holds without bells, notes, players, pages or choirs. What is refused there has no trace by RefusalsTest. */
final class EmptyTest {
    private static final Class<UnsupportedOperationException> UNSUPPORTED = UnsupportedOperationException.class;
    private static final Class<IndexOutOfBoundsException> INDEX = IndexOutOfBoundsException.class;
    private static final Class<NoSuchElementException> NONE = NoSuchElementException.class;
    private static final Class<ArithmeticException> ARITHMETIC = ArithmeticException.class;

    public static void main(String[] args) {
        withoutBells();
        withoutNotes();
        everyTransposeWithoutNotes();
        silentWithoutNotes();
        turnsWithoutNotes();
        withoutPlayers();
        withoutPlayersButNotes();
        withoutPages();
        withoutChoirs();
        emptiedAgain();
        Check.end("EmptyTest");
    }

    private static void withoutBells() {
        WhiteclothTable t = new WhiteclothTable();
        t.addPlayer(9, 0);
        for (int i = 0; i < 60; i++) {
            int pitch = i;
            Check.same("ownerOf " + pitch, t.ownerOf(pitch), -1);
            Check.same("strokesOf " + pitch, t.strokesOf(pitch), 0);
            Check.same("serve " + pitch, t.serve(pitch), 0);
            Check.no("setBell false " + pitch, t.setBell(pitch, false));
        }
        Check.same("checksum()", t.checksum(), (7L * 31 + 0) * 31 + 2);
        Check.yes("isTrue()", t.isTrue());
        for (int i = 0; i < 60; i += 59) {
            int pitch = i;
            Check.fails(t, "note of " + pitch, UNSUPPORTED, () -> t.note(0, pitch, 1, 'r'));
            Check.fails(t, "give " + pitch, UNSUPPORTED, () -> t.give(pitch, 0));
            Check.fails(t, "give " + pitch + " to none", UNSUPPORTED, () -> t.give(pitch, -1));
        }
    }

    private static void withoutNotes() {
        WhiteclothTable t = Tables.withAllBells();
        t.addPlayer(1, 3);
        t.addPlayer(9, -3);
        t.give(59, 0);
        t.give(0, 1);
        Check.same("notes()", t.notes(), 0);
        for (int player = 0; player < 2; player++) {
            Check.yes("hasPlan", t.hasPlan(player));
            Check.same("changes", t.changes(player), 0);
            Check.same("loadOf", t.loadOf(player), 0);
        }
        Check.same("meanLoad()", t.meanLoad(), 0.0);
        Check.same("perform()", t.perform(), 0);
        Check.same("strokesOf(59)", t.strokesOf(59), 0);
        Check.same("fewest()", t.fewest(), 0);
        Check.same("ownerOf(59), asked for the fewest", t.ownerOf(59), 0);
        Check.same("deal()", t.deal(), 0);
        Check.same("ownerOf(59), dealt", t.ownerOf(59), -1);
        Check.same("ownerOf(0), dealt", t.ownerOf(0), -1);
        Check.yes("isTrue()", t.isTrue());
        Check.fails(t, "drop(0)", INDEX, () -> t.drop(0));
        Check.fails(t, "tickOf(0)", INDEX, () -> t.tickOf(0));
        Check.fails(t, "pitchOf(0)", INDEX, () -> t.pitchOf(0));
        Check.fails(t, "handOf(0)", INDEX, () -> t.handOf(0));
        Check.fails(t, "slip(0, 0)", INDEX, () -> t.slip(0, 0));
        Check.fails(t, "lateOf(0)", INDEX, () -> t.lateOf(0));
        Check.fails(t, "carries(0)", INDEX, () -> t.carries(0));
        Check.fails(t, "mostLate()", NONE, () -> t.mostLate());
        Check.fails(t, "loudest()", NONE, () -> t.loudest());
        Check.fails(t, "ownedShare()", ARITHMETIC, () -> t.ownedShare());
    }

    /** No note is there that could want a bell. */
    private static void everyTransposeWithoutNotes() {
        WhiteclothTable none = new WhiteclothTable();
        WhiteclothTable bells = Tables.withAllBells();
        for (int by = -59; by <= 59; by++) {
            Check.same("transpose " + by + " without bells", none.transpose(by), 0);
            Check.same("transpose " + by, bells.transpose(by), 0);
        }
    }

    private static void silentWithoutNotes() {
        WhiteclothTable t = new WhiteclothTable();
        for (int tick = 0; tick <= 500; tick++) {
            Check.same("levelAt " + tick, t.levelAt(tick), 0);
        }
        Check.same("clashes()", t.clashes(), 0);
    }

    private static void turnsWithoutNotes() {
        for (int first = 0; first <= 400; first += 8) {
            WhiteclothTable t = new WhiteclothTable();
            t.addPlayer(1, 0);
            for (int page = 0; page < 8 && first + page <= 400; page++) {
                int end = first + page;
                Check.same("endPage " + end, t.endPage(end), page + 1);
                Check.same("turnOf, page at " + end, t.turnOf(0, page), end < 6 ? 0 : end - 6);
            }
        }
    }

    private static void withoutPlayers() {
        WhiteclothTable t = Tables.withAllBells();
        t.endPage(5);
        for (int i = -1; i <= 1; i++) {
            int player = i;
            Check.fails(t, "placeOf " + player, INDEX, () -> t.placeOf(player));
            Check.fails(t, "hasPlan " + player, INDEX, () -> t.hasPlan(player));
            Check.fails(t, "changes " + player, INDEX, () -> t.changes(player));
            Check.fails(t, "loadOf " + player, INDEX, () -> t.loadOf(player));
            Check.fails(t, "turnOf " + player, INDEX, () -> t.turnOf(player, 0));
            Check.fails(t, "swap " + player, INDEX, () -> t.swap(player, player));
        }
        Check.fails(t, "give(5, 0)", INDEX, () -> t.give(5, 0));
        Check.same("give(5, -1)", t.give(5, -1), -1);
        Check.same("deal()", t.deal(), 0);
        Check.same("fewest()", t.fewest(), 0);
        Check.same("perform()", t.perform(), 0);
        Check.yes("isTrue()", t.isTrue());
        Check.fails(t, "meanLoad()", ARITHMETIC, () -> t.meanLoad());
        Check.fails(t, "mostLate()", NONE, () -> t.mostLate());
    }

    private static void withoutPlayersButNotes() {
        WhiteclothTable t = Tables.withAllBells();
        t.note(0, 0, 4, 'r');
        t.note(2, 1, 4, 's');
        t.slip(0, 50);
        Check.same("ownedShare()", t.ownedShare(), 0.0f);
        Check.same("carries(0)", t.carries(0), 0);
        Check.same("clashes()", t.clashes(), 2);
        Check.same("loudest()", t.loudest(), 2);
        Check.same("notes()", t.notes(), 2);
        Check.fails(t, "lateOf(0)", NONE, () -> t.lateOf(0));
        Check.fails(t, "mostLate()", NONE, () -> t.mostLate());
        Check.fails(t, "handOf(0)", NONE, () -> t.handOf(0));
        Check.fails(t, "deal()", NONE, () -> t.deal());
        Check.fails(t, "fewest()", NONE, () -> t.fewest());
        Check.fails(t, "perform()", UNSUPPORTED, () -> t.perform());
        Check.fails(t, "meanLoad()", ARITHMETIC, () -> t.meanLoad());
        Check.yes("isTrue()", t.isTrue());
    }

    private static void withoutPages() {
        WhiteclothTable t = new WhiteclothTable();
        t.addPlayer(5, 0);
        for (int i = -1; i <= 8; i++) {
            int page = i;
            Check.fails(t, "turnOf(0, " + page + ")", INDEX, () -> t.turnOf(0, page));
        }
    }

    private static void withoutChoirs() {
        WhiteclothTable t = new WhiteclothTable();
        Check.same("spread()", t.spread(), 0);
        for (int i = -1; i <= 6; i++) {
            int choir = i;
            Check.fails(t, "aheadOf(" + choir + ")", INDEX, () -> t.aheadOf(choir));
        }
    }

    /** A table whose notes and bells are all taken away again answers as one that never had any. */
    private static void emptiedAgain() {
        WhiteclothTable t = Tables.withBells(3, 50);
        t.addPlayer(9, 2);
        t.give(3, 0);
        t.give(50, 0);
        t.note(7, 3, 5, 's');
        t.note(9, 50, 5, 'r');
        t.slip(0, 33);
        t.perform();
        Check.same("drop(1)", t.drop(1), 1);
        Check.same("drop(0)", t.drop(0), 0);
        Check.yes("setBell(3, false)", t.setBell(3, false));
        Check.yes("setBell(50, false)", t.setBell(50, false));
        Check.same("checksum()", t.checksum(), (7L * 31 + 0) * 31 + 2);
        Check.same("levelAt(9)", t.levelAt(9), 0);
        Check.same("loadOf(0)", t.loadOf(0), 0);
        Check.same("perform()", t.perform(), 0);
        Check.fails(t, "loudest()", NONE, () -> t.loudest());
        Check.fails(t, "mostLate()", NONE, () -> t.mostLate());
        Check.fails(t, "ownedShare()", ARITHMETIC, () -> t.ownedShare());
        t.setBell(3, true);
        Check.same("ownerOf(3)", t.ownerOf(3), -1);
        Check.same("strokesOf(3)", t.strokesOf(3), 0);
    }
}
