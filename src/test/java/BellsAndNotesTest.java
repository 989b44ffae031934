/** Promises 1 to 8: the new object, bells, notes, drops, transpositions. */
final class BellsAndNotesTest {
    private static final Class<IllegalArgumentException> ARGUMENT = IllegalArgumentException.class;
    private static final Class<UnsupportedOperationException> UNSUPPORTED = UnsupportedOperationException.class;
    private static final Class<IllegalStateException> STATE = IllegalStateException.class;
    private static final Class<IndexOutOfBoundsException> INDEX = IndexOutOfBoundsException.class;

    public static void main(String[] args) {
        newTable();
        bells();
        takenAwayBells();
        noteRanges();
        noteWays();
        overlaps();
        sixtyNotes();
        order();
        drops();
        transpositions();
        Check.end("BellsAndNotesTest");
    }

    private static void newTable() {
        WhiteclothTable t = new WhiteclothTable();
        Check.same("notes()", t.notes(), 0);
        Check.same("checksum()", t.checksum(), 31 * 7 + 2);
        Check.same("setRest(2)", t.setRest(2), 2);
        for (int pitch = 0; pitch < 60; pitch++) {
            Check.same("ownerOf", t.ownerOf(pitch), -1);
            Check.same("strokesOf", t.strokesOf(pitch), 0);
            Check.no("setBell(.., false)", t.setBell(pitch, false));
        }
        Check.fails(t, "placeOf(0)", INDEX, () -> t.placeOf(0));
        Check.same("addPlayer", t.addPlayer(1, 0), 0);
        Check.same("addChoir", t.addChoir(0, 0), 0);
        Check.same("endPage", t.endPage(0), 1);
    }

    private static void bells() {
        WhiteclothTable t = new WhiteclothTable();
        Check.no("setBell(0, true)", t.setBell(0, true));
        Check.yes("setBell(0, true)", t.setBell(0, true));
        Check.no("setBell(59, true)", t.setBell(59, true));
        Check.yes("setBell(59, false)", t.setBell(59, false));
        Check.no("setBell(59, false)", t.setBell(59, false));
        Check.fails(t, "setBell(-1)", ARGUMENT, () -> t.setBell(-1, true));
        Check.fails(t, "setBell(60)", ARGUMENT, () -> t.setBell(60, false));
        Check.fails(t, "setBell(min)", ARGUMENT, () -> t.setBell(Integer.MIN_VALUE, false));
        t.note(3, 0, 1, 'r');
        Check.fails(t, "setBell(0, false) with a note", UNSUPPORTED, () -> t.setBell(0, false));
        Check.yes("setBell(0, true) with a note", t.setBell(0, true));
        t.drop(0);
        Check.yes("setBell(0, false)", t.setBell(0, false));
    }

    private static void takenAwayBells() {
        WhiteclothTable t = new WhiteclothTable();
        t.setBell(30, true);
        t.addPlayer(9, 0);
        t.give(30, 0);
        t.note(0, 30, 1, 's');
        t.perform();
        Check.same("strokesOf(30)", t.strokesOf(30), 3);
        t.setBell(30, true);
        Check.same("ownerOf(30), put there again", t.ownerOf(30), 0);
        Check.same("strokesOf(30), put there again", t.strokesOf(30), 3);
        t.drop(0);
        t.setBell(30, false);
        Check.same("ownerOf(30), away", t.ownerOf(30), -1);
        Check.same("strokesOf(30), away", t.strokesOf(30), 0);
        t.setBell(30, true);
        Check.same("ownerOf(30), back", t.ownerOf(30), -1);
        Check.same("strokesOf(30), back", t.strokesOf(30), 0);
    }

    private static void noteRanges() {
        WhiteclothTable t = new WhiteclothTable();
        t.setBell(0, true);
        t.setBell(59, true);
        Check.same("note", t.note(0, 0, 64, 'r'), 1);
        Check.same("note", t.note(400, 59, 64, 'r'), 2);
        Check.same("note", t.note(400, 0, 1, 'r'), 3);
        Check.fails(t, "tick -1", ARGUMENT, () -> t.note(-1, 0, 1, 'r'));
        Check.fails(t, "tick 401", ARGUMENT, () -> t.note(401, 0, 1, 'r'));
        Check.fails(t, "tick max", ARGUMENT, () -> t.note(Integer.MAX_VALUE, 0, 1, 'r'));
        Check.fails(t, "pitch -1", ARGUMENT, () -> t.note(100, -1, 1, 'r'));
        Check.fails(t, "pitch 60", ARGUMENT, () -> t.note(100, 60, 1, 'r'));
        Check.fails(t, "length 0", ARGUMENT, () -> t.note(100, 0, 0, 'r'));
        Check.fails(t, "length 65", ARGUMENT, () -> t.note(100, 0, 65, 'r'));
        Check.fails(t, "no bell", UNSUPPORTED, () -> t.note(100, 1, 1, 'r'));
        Check.fails(t, "no bell, no way", ARGUMENT, () -> t.note(100, 1, 1, 'x'));
        Check.same("notes()", t.notes(), 3);
    }

    private static void noteWays() {
        WhiteclothTable t = new WhiteclothTable();
        t.setBell(7, true);
        int many = 0;
        for (int way = 0; way < 256; way++) {
            char asked = (char) way;
            if ("rsmde".indexOf(asked) >= 0) {
                many++;
                Check.same("note " + asked, t.note(way, 7, 1, asked), many);
            } else {
                Check.fails(t, "way " + way, ARGUMENT, () -> t.note(300, 7, 1, asked));
            }
        }
        Check.fails(t, "way 65535", ARGUMENT, () -> t.note(300, 7, 1, (char) 65535));
    }

    private static void overlaps() {
        WhiteclothTable t = new WhiteclothTable();
        t.setBell(7, true);
        t.setBell(8, true);
        t.note(10, 7, 5, 'r');
        Check.fails(t, "same ticks", UNSUPPORTED, () -> t.note(10, 7, 5, 'r'));
        Check.fails(t, "last tick", UNSUPPORTED, () -> t.note(14, 7, 1, 'r'));
        Check.fails(t, "first tick", UNSUPPORTED, () -> t.note(8, 7, 3, 'r'));
        Check.fails(t, "inside", UNSUPPORTED, () -> t.note(12, 7, 1, 'r'));
        Check.fails(t, "around", UNSUPPORTED, () -> t.note(0, 7, 64, 'r'));
        Check.same("right behind", t.note(15, 7, 1, 'r'), 2);
        Check.same("right ahead", t.note(8, 7, 2, 'r'), 3);
        Check.same("another bell", t.note(10, 8, 5, 'r'), 4);
    }

    private static void sixtyNotes() {
        WhiteclothTable t = new WhiteclothTable();
        t.setBell(7, true);
        for (int i = 0; i < 60; i++) {
            Check.same("note", t.note(2 * i, 7, 1, 'r'), i + 1);
        }
        Check.fails(t, "the 61st", STATE, () -> t.note(201, 7, 1, 'r'));
        Check.fails(t, "the 61st where one is", UNSUPPORTED, () -> t.note(2, 7, 1, 'r'));
        Check.fails(t, "the 61st of no bell", UNSUPPORTED, () -> t.note(201, 8, 1, 'r'));
        Check.fails(t, "the 61st of no way", ARGUMENT, () -> t.note(201, 7, 1, 'q'));
        Check.same("drop", t.drop(59), 59);
        Check.same("note", t.note(201, 7, 1, 'r'), 60);
    }

    private static void order() {
        WhiteclothTable t = new WhiteclothTable();
        t.setBell(7, true);
        t.setBell(9, true);
        t.setBell(8, true);
        t.note(5, 9, 1, 'r');
        t.note(5, 7, 1, 'r');
        t.note(4, 9, 1, 'r');
        t.note(5, 8, 1, 'r');
        t.note(6, 7, 1, 'r');
        int[] ticks = {4, 5, 5, 5, 6};
        int[] pitches = {9, 7, 8, 9, 7};
        for (int i = 0; i < 5; i++) {
            Check.same("tickOf " + i, t.tickOf(i), ticks[i]);
            Check.same("pitchOf " + i, t.pitchOf(i), pitches[i]);
        }
        Check.fails(t, "tickOf(-1)", INDEX, () -> t.tickOf(-1));
        Check.fails(t, "tickOf(5)", INDEX, () -> t.tickOf(5));
        Check.fails(t, "pitchOf(-1)", INDEX, () -> t.pitchOf(-1));
        Check.fails(t, "pitchOf(5)", INDEX, () -> t.pitchOf(5));
    }

    private static void drops() {
        WhiteclothTable t = new WhiteclothTable();
        t.setBell(7, true);
        Check.fails(t, "drop(0) of none", INDEX, () -> t.drop(0));
        t.note(0, 7, 1, 'r');
        t.note(1, 7, 1, 'r');
        t.note(2, 7, 1, 'r');
        t.slip(1, 9);
        Check.fails(t, "drop(3)", INDEX, () -> t.drop(3));
        Check.fails(t, "drop(-1)", INDEX, () -> t.drop(-1));
        Check.same("drop(0)", t.drop(0), 2);
        Check.same("tickOf(0)", t.tickOf(0), 1);
        Check.same("slip(0, 0), moved with its note", t.slip(0, 0), 9);
        t.slip(0, 9);
        Check.same("drop(0)", t.drop(0), 1);
        t.note(1, 7, 1, 'r');
        Check.same("slip(0, 0) of a new note", t.slip(0, 0), 0);
        Check.same("notes()", t.notes(), 2);
    }

    private static void transpositions() {
        WhiteclothTable t = new WhiteclothTable();
        Check.same("transpose(59) of none", t.transpose(59), 0);
        Check.same("transpose(-59) of none", t.transpose(-59), 0);
        Check.fails(t, "transpose(60)", ARGUMENT, () -> t.transpose(60));
        Check.fails(t, "transpose(-60)", ARGUMENT, () -> t.transpose(-60));
        t.setBell(0, true);
        t.setBell(1, true);
        t.setBell(2, true);
        t.setBell(59, true);
        t.note(3, 0, 2, 'r');
        t.note(3, 1, 2, 'm');
        t.slip(1, -7);
        Check.same("transpose(0)", t.transpose(0), 2);
        Check.same("transpose(1)", t.transpose(1), 2);
        Check.same("pitchOf(0)", t.pitchOf(0), 1);
        Check.same("pitchOf(1)", t.pitchOf(1), 2);
        Check.same("slip(1)", t.slip(1, -7), -7);
        Check.fails(t, "transpose(1) without a bell 3", UNSUPPORTED, () -> t.transpose(1));
        Check.fails(t, "transpose(-2) below 0", UNSUPPORTED, () -> t.transpose(-2));
        Check.fails(t, "transpose(59) above 59", UNSUPPORTED, () -> t.transpose(59));
        Check.fails(t, "transpose(max)", ARGUMENT, () -> t.transpose(Integer.MAX_VALUE));
        Check.same("pitchOf(0)", t.pitchOf(0), 1);
        t.drop(0);
        Check.same("transpose(57)", t.transpose(57), 1);
        Check.same("pitchOf(0)", t.pitchOf(0), 59);
        Check.yes("setBell(2, false)", t.setBell(2, false));
        Check.fails(t, "setBell(59, false)", UNSUPPORTED, () -> t.setBell(59, false));
    }
}
