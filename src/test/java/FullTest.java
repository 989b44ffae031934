/** What holds with as many bells, notes, players, pages and choirs as there can be. */
final class FullTest {
    private static final Class<IllegalArgumentException> ARGUMENT = IllegalArgumentException.class;
    private static final Class<IllegalStateException> STATE = IllegalStateException.class;
    private static final String WAYS = "rsmde";

    public static void main(String[] args) {
        asManyAsThereCanBe();
        modelOfTheFullTable();
        sixtyNotesOfOneBell();
        sixtyNotesAtOneTick();
        sixtyNotesOfOnePlayer();
        fullAndEmptiedByOne();
        pagesStayTold();
        twelvePlayersAndOneBell();
        twentyFourBellsForTwelve();
        sixtyBellsForOne();
        heldInARowOfTwelve();
        lastCallOf512();
        askedOverAndOver();
        Check.end("FullTest");
    }

    private static void asManyAsThereCanBe() {
        WhiteclothTable t = Tables.withAllBells();
        for (int i = 0; i < 12; i++) {
            Check.same("addPlayer", t.addPlayer(9, 0), i);
            Check.same("placeOf", t.placeOf(i), i);
        }
        for (int i = 0; i < 60; i++) {
            Check.same("note", t.note(400 - i, i, 64, WAYS.charAt(i % 5)), i + 1);
        }
        for (int i = 0; i < 8; i++) {
            Check.same("endPage", t.endPage(400 - i), i + 1);
        }
        for (int i = 0; i < 6; i++) {
            Check.same("addChoir", t.addChoir(99 - i, 200), i);
        }
        Check.fails(t, "the 13th player", STATE, () -> t.addPlayer(9, 0));
        Check.fails(t, "the 61st note", STATE, () -> t.note(0, 0, 1, 'r'));
        Check.fails(t, "the 9th page", STATE, () -> t.endPage(0));
        Check.fails(t, "the 7th choir", STATE, () -> t.addChoir(0, 0));
        Check.same("notes()", t.notes(), 60);
        Check.same("tickOf(0)", t.tickOf(0), 341);
        Check.same("pitchOf(0)", t.pitchOf(0), 59);
        Check.same("tickOf(59)", t.tickOf(59), 400);
        Check.same("pitchOf(59)", t.pitchOf(59), 0);
        Check.same("aheadOf(0)", t.aheadOf(0), 5);
        Check.same("aheadOf(5)", t.aheadOf(5), 0);
        Check.same("spread()", t.spread(), 5);
        Check.same("turnOf(11, 7)", t.turnOf(11, 7), 387);
        Check.same("swap(11, 0)", t.swap(11, 0), 0);
        Check.same("placeOf(0)", t.placeOf(0), 11);
        Check.yes("isTrue()", t.isTrue());
    }

    /** The full table by hand and by the model: every question that one number asks. */
    private static void modelOfTheFullTable() {
        Model m = fullModel();
        WhiteclothTable t = fullTable();
        Check.same("checksum()", t.checksum(), m.checksum());
        for (int note = 0; note < 60; note++) {
            Check.same("handOf " + note, t.handOf(note), m.handOf(note));
            Check.same("lateOf " + note, t.lateOf(note), m.lateOf(note));
            Check.same("carries " + note, t.carries(note), m.carries(note));
        }
        WhiteclothTable u = fullTable();
        for (int note = 0; note < 60; note++) {
            Check.same("tickOf " + note, u.tickOf(note), m.notes.get(note).tick);
            Check.same("pitchOf " + note, u.pitchOf(note), m.notes.get(note).pitch);
        }
        questionsOfPlayersAndAll(m);
    }

    private static void questionsOfPlayersAndAll(Model m) {
        WhiteclothTable u = fullTable();
        for (int player = 0; player < 12; player++) {
            Check.same("loadOf " + player, u.loadOf(player), m.loadOf(player));
            Check.same("changes " + player, u.changes(player), m.changes(player));
            for (int page = 0; page < 8; page++) {
                Check.same("turnOf " + player + " " + page, u.turnOf(player, page), m.turnOf(player, page));
            }
        }
        Check.same("mostLate()", u.mostLate(), m.mostLate());
        Check.same("loudest()", u.loudest(), m.loudest());
        Check.same("clashes()", u.clashes(), m.clashes());
        Check.same("meanLoad()", u.meanLoad(), m.meanLoad());
        Check.same("ownedShare()", u.ownedShare(), 1.0f);
        Check.same("perform()", u.perform(), m.perform());
        Check.same("checksum(), performed", u.checksum(), m.checksum());
        levels(m, 0, 250);
        levels(m, 251, 500);
    }

    private static void levels(Model m, int first, int last) {
        WhiteclothTable t = fullTable();
        for (int tick = first; tick <= last; tick++) {
            Check.same("levelAt " + tick, t.levelAt(tick), m.levelAt(tick));
        }
    }

    private static int leaning(int player) {
        return player * 5 % 7 - 3;
    }

    private static WhiteclothTable fullTable() {
        WhiteclothTable t = Tables.withAllBells();
        for (int i = 0; i < 12; i++) {
            t.addPlayer(9, leaning(i));
        }
        for (int i = 0; i < 60; i++) {
            t.give(i, i % 12);
            t.note(7 * i * 31 % 401, i, 1 + i % 7, WAYS.charAt(i % 5));
        }
        for (int i = 0; i < 60; i += 3) {
            t.slip(i, 50 - 5 * (i % 20));
        }
        for (int i = 0; i < 8; i++) {
            t.endPage(57 * i);
        }
        return t;
    }

    private static Model fullModel() {
        Model m = new Model();
        for (int i = 0; i < 60; i++) {
            m.setBell(i, true);
        }
        for (int i = 0; i < 12; i++) {
            m.addPlayer(9, leaning(i));
        }
        for (int i = 0; i < 60; i++) {
            m.give(i, i % 12);
            m.note(7 * i * 31 % 401, i, 1 + i % 7, WAYS.charAt(i % 5));
        }
        for (int i = 0; i < 60; i += 3) {
            m.slip(i, 50 - 5 * (i % 20));
        }
        for (int i = 0; i < 8; i++) {
            m.endPage(57 * i);
        }
        return m;
    }

    private static void sixtyNotesOfOneBell() {
        WhiteclothTable t = Tables.withBells(17);
        t.addPlayer(7, 0);
        t.give(17, 0);
        t.setRest(8);
        for (int i = 59; i >= 0; i--) {
            Check.same("note", t.note(6 * i, 17, 6, 's'), 60 - i);
        }
        Check.same("changes(0)", t.changes(0), 0);
        for (int i = 0; i < 60; i++) {
            Check.same("tickOf", t.tickOf(i), 6 * i);
            Check.same("handOf", t.handOf(i), 0);
        }
        Check.same("loadOf(0)", t.loadOf(0), 60 * 7);
        Check.same("perform()", t.perform(), 180);
        Check.same("strokesOf(17)", t.strokesOf(17), 180);
        Check.same("perform() at 180", t.perform(), 180);
        Check.fails(t, "perform() at 360", UnsupportedOperationException.class, () -> t.perform());
        Check.same("serve(17)", t.serve(17), 360);
        Check.same("perform()", t.perform(), 180);
    }

    private static void sixtyNotesAtOneTick() {
        WhiteclothTable t = Tables.withAllBells();
        t.addPlayer(9, 0);
        for (int pitch = 59; pitch >= 0; pitch--) {
            t.note(400, pitch, 64, 's');
        }
        int level = 0;
        for (int pitch = 0; pitch < 60; pitch++) {
            Check.same("pitchOf " + pitch, t.pitchOf(pitch), pitch);
            level += 60 * (11 + (59 - pitch) / 7) / 10;
        }
        Check.same("levelAt(400)", t.levelAt(400), level);
        Check.same("levelAt(463)", t.levelAt(463), level);
        Check.same("levelAt(464)", t.levelAt(464), 0);
        Check.same("loudest()", t.loudest(), 400);
        Check.same("clashes()", t.clashes(), 64);
        Check.fails(t, "deal()", java.util.NoSuchElementException.class, () -> t.deal());
        Check.same("transpose(0)", t.transpose(0), 60);
    }

    private static void sixtyNotesOfOnePlayer() {
        WhiteclothTable t = Tables.withAllBells();
        t.addPlayer(9, 0);
        t.setRest(0);
        for (int pitch = 0; pitch < 60; pitch++) {
            t.give(pitch, 0);
            t.note(3 * pitch, pitch, 6, 'r');
        }
        // Each note ends as the next but one begins: the hands take turns, and each goes on with another bell.
        Check.same("changes(0)", t.changes(0), 58);
        for (int note = 0; note < 60; note++) {
            Check.same("handOf " + note, t.handOf(note), note % 2);
        }
        Check.same("mostLate()", t.mostLate(), 0);
        t.setRest(1);
        Check.no("hasPlan(0) at rest 1", t.hasPlan(0));
    }

    private static void fullAndEmptiedByOne() {
        WhiteclothTable t = Tables.FULL.make();
        Check.same("drop(59)", t.drop(59), 59);
        Check.same("note, the 60th again", t.note(300, 0, 1, 'r'), 60);
        Check.fails(t, "the 61st", STATE, () -> t.note(302, 0, 1, 'r'));
        Check.same("drop(0)", t.drop(0), 59);
        Check.fails(t, "the 60th of no such way", ARGUMENT, () -> t.note(302, 0, 1, 'x'));
        Check.same("note, the 60th once more", t.note(302, 0, 1, 'r'), 60);
    }

    private static void pagesStayTold() {
        WhiteclothTable t = new WhiteclothTable();
        t.addPlayer(1, 0);
        int[] ends = {400, 0, 200, 200, 7, 6, 5, 399};
        int[] turns = {394, 0, 194, 194, 1, 0, 0, 393};
        for (int i = 0; i < 8; i++) {
            Check.same("endPage", t.endPage(ends[i]), i + 1);
        }
        Check.fails(t, "the 9th page", STATE, () -> t.endPage(100));
        for (int i = 0; i < 8; i++) {
            Check.same("turnOf(0, " + i + ")", t.turnOf(0, i), turns[i]);
        }
    }

    private static void twelvePlayersAndOneBell() {
        WhiteclothTable t = Tables.withBells(0);
        for (int i = 0; i < 12; i++) {
            t.addPlayer(i == 11 ? 9 : 8, 0);
        }
        t.note(0, 0, 1, 'r');
        Check.fails(t, "deal(), the first one too weak", java.util.NoSuchElementException.class, () -> t.deal());
        t.swap(0, 11);
        Check.same("deal()", t.deal(), 0);
        Check.same("ownerOf(0)", t.ownerOf(0), 11);
        Check.same("fewest()", t.fewest(), 1);
    }

    private static void twentyFourBellsForTwelve() {
        WhiteclothTable t = Tables.withAllBells();
        for (int i = 0; i < 12; i++) {
            t.addPlayer(9, 0);
        }
        // All at one tick, so that nobody can ring more than two of them: all twelve are needed.
        t.setRest(0);
        for (int pitch = 0; pitch < 24; pitch++) {
            t.note(0, pitch, 1, 'd');
        }
        Check.same("deal()", t.deal(), 0);
        for (int pitch = 0; pitch < 24; pitch++) {
            Check.same("ownerOf " + pitch, t.ownerOf(pitch), pitch / 2);
        }
        Check.same("fewest()", t.fewest(), 12);
        t.note(0, 24, 1, 'd');
        Check.fails(t, "deal(), one bell too many", java.util.NoSuchElementException.class, () -> t.deal());
        Check.fails(t, "fewest(), one bell too many", java.util.NoSuchElementException.class, () -> t.fewest());
        Check.same("ownerOf(23)", t.ownerOf(23), 11);
    }

    private static void sixtyBellsForOne() {
        WhiteclothTable t = Tables.withAllBells();
        t.addPlayer(9, 0);
        t.setRest(0);
        for (int pitch = 0; pitch < 60; pitch++) {
            t.note(6 * pitch, pitch, 6, 'r');
        }
        Check.same("deal()", t.deal(), 58);
        Check.same("fewest()", t.fewest(), 1);
        int load = 0;
        for (int pitch = 0; pitch < 60; pitch++) {
            Check.same("ownerOf " + pitch, t.ownerOf(pitch), 0);
            load += 1 + (59 - pitch) / 7;
        }
        Check.same("loadOf(0)", t.loadOf(0), load);
    }

    private static void heldInARowOfTwelve() {
        WhiteclothTable t = Tables.withAllBells();
        for (int i = 0; i < 12; i++) {
            t.addPlayer(9, 3);
            t.give(i, i);
        }
        for (int i = 0; i < 60; i++) {
            t.note(i / 12, i % 12, 1, 'd');
            t.slip(i, 50);
        }
        Check.same("lateOf(0)", t.lateOf(0), 53);
        Check.same("lateOf(11)", t.lateOf(11), 53 + 26);
        Check.same("lateOf(58)", t.lateOf(58), 99);
        Check.same("mostLate()", t.mostLate(), 13);
        Check.same("lateOf(13)", t.lateOf(13), 99);
        Check.same("lateOf(12)", t.lateOf(12), 53 + (53 + 70) / 3);
    }

    /** Asking changes nothing, however often: the last answer is the first one. */
    private static void askedOverAndOver() {
        WhiteclothTable sum = Tables.SMALL.make();
        WhiteclothTable late = Tables.SMALL.make();
        WhiteclothTable plan = Tables.SMALL.make();
        WhiteclothTable many = Tables.SMALL.make();
        long checksum = sum.checksum();
        int lateOf = late.lateOf(1);
        int handOf = plan.handOf(2);
        for (int i = 0; i < 470; i++) {
            Check.same("checksum()", sum.checksum(), checksum);
            Check.same("lateOf(1)", late.lateOf(1), lateOf);
            Check.same("handOf(2)", plan.handOf(2), handOf);
            Check.same("notes()", many.notes(), 8);
        }
    }

    /** The table still answers at its 512th call. */
    private static void lastCallOf512() {
        WhiteclothTable t = Tables.withBells(20);
        t.addPlayer(9, 0);
        t.give(20, 0);
        t.note(0, 20, 1, 's');
        for (int call = 5; call < 512; call += 3) {
            Check.same("perform()", t.perform(), 3);
            Check.same("strokesOf(20)", t.strokesOf(20), 3);
            Check.same("serve(20)", t.serve(20), 3);
        }
        Check.same("checksum(), the 512th call", t.checksum(),
                ((((((7L * 31) * 31 + 20) * 31 + 1) * 31 + 0) * 31 + 0) * 31 + 0) * 31 * 31 + 2);
    }
}
