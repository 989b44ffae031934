/** Promises 1 to 8: the new object, bells, notes, drops, transpositions. */
final class BellsAndNotesTest {
    private static final Class<IllegalArgumentException> ARGUMENT = IllegalArgumentException.class;
    private static final Class<UnsupportedOperationException> UNSUPPORTED = UnsupportedOperationException.class;
    private static final Class<IllegalStateException> STATE = IllegalStateException.class;
    private static final Class<IndexOutOfBoundsException> INDEX = IndexOutOfBoundsException.class;

    public static void main(String[] args) {
        newTable();
        bells();
        everyBell();
        weightOfEveryBell();
        takenAwayBells();
        noteRanges();
        lastNumbersTogether();
        noteWays();
        overlaps();
        overlapsOfTheLongest();
        sixtyNotes();
        order();
        orderOfLikeTicks();
        drops();
        dropAtEveryPlace();
        transpositions();
        transposeByTheMost();
        transposedNotesKeepTheRest();
        twoTablesApart();
        Check.end("BellsAndNotesTest");
    }

    private static void newTable() {
        WhiteclothTable t = new WhiteclothTable();
        Check.same("notes()", t.notes(), 0);
        Check.same("checksum()", t.checksum(), 31 * 7 + 2);
        Check.same("setRest(2)", t.setRest(2), 2);
        for (int pitch = 0; pitch < 60; pitch++) {
            Check.same("ownerOf", t.ownerOf(pitch), -1);
            Check.same("strokesOf", t.strokesOf(pitch), 0);
            Check.no("setBell(.., false)", t.setBell(pitch, false));
        }
        Check.fails(t, "placeOf(0)", INDEX, () -> t.placeOf(0));
        Check.same("addPlayer", t.addPlayer(1, 0), 0);
        Check.same("addChoir", t.addChoir(0, 0), 0);
        Check.same("endPage", t.endPage(0), 1);
    }

    private static void bells() {
        WhiteclothTable t = new WhiteclothTable();
        Check.no("setBell(0, true)", t.setBell(0, true));
        Check.yes("setBell(0, true)", t.setBell(0, true));
        Check.no("setBell(59, true)", t.setBell(59, true));
        Check.yes("setBell(59, false)", t.setBell(59, false));
        Check.no("setBell(59, false)", t.setBell(59, false));
        Check.fails(t, "setBell(-1)", ARGUMENT, () -> t.setBell(-1, true));
        Check.fails(t, "setBell(60)", ARGUMENT, () -> t.setBell(60, false));
        Check.fails(t, "setBell(min)", ARGUMENT, () -> t.setBell(Integer.MIN_VALUE, false));
        t.note(3, 0, 1, 'r');
        Check.fails(t, "setBell(0, false) with a note", UNSUPPORTED, () -> t.setBell(0, false));
        Check.yes("setBell(0, true) with a note", t.setBell(0, true));
        t.drop(0);
        Check.yes("setBell(0, false)", t.setBell(0, false));
    }

    private static void takenAwayBells() {
        WhiteclothTable t = new WhiteclothTable();
        t.setBell(30, true);
        t.addPlayer(9, 0);
        t.give(30, 0);
        t.note(0, 30, 1, 's');
        t.perform();
        Check.same("strokesOf(30)", t.strokesOf(30), 3);
        t.setBell(30, true);
        Check.same("ownerOf(30), put there again", t.ownerOf(30), 0);
        Check.same("strokesOf(30), put there again", t.strokesOf(30), 3);
        t.drop(0);
        t.setBell(30, false);
        Check.same("ownerOf(30), away", t.ownerOf(30), -1);
        Check.same("strokesOf(30), away", t.strokesOf(30), 0);
        t.setBell(30, true);
        Check.same("ownerOf(30), back", t.ownerOf(30), -1);
        Check.same("strokesOf(30), back", t.strokesOf(30), 0);
    }

    private static void noteRanges() {
        WhiteclothTable t = new WhiteclothTable();
        t.setBell(0, true);
        t.setBell(59, true);
        Check.same("note", t.note(0, 0, 64, 'r'), 1);
        Check.same("note", t.note(400, 59, 64, 'r'), 2);
        Check.same("note", t.note(400, 0, 1, 'r'), 3);
        Check.fails(t, "tick -1", ARGUMENT, () -> t.note(-1, 0, 1, 'r'));
        Check.fails(t, "tick 401", ARGUMENT, () -> t.note(401, 0, 1, 'r'));
        Check.fails(t, "tick max", ARGUMENT, () -> t.note(Integer.MAX_VALUE, 0, 1, 'r'));
        Check.fails(t, "pitch -1", ARGUMENT, () -> t.note(100, -1, 1, 'r'));
        Check.fails(t, "pitch 60", ARGUMENT, () -> t.note(100, 60, 1, 'r'));
        Check.fails(t, "length 0", ARGUMENT, () -> t.note(100, 0, 0, 'r'));
        Check.fails(t, "length 65", ARGUMENT, () -> t.note(100, 0, 65, 'r'));
        Check.fails(t, "no bell", UNSUPPORTED, () -> t.note(100, 1, 1, 'r'));
        Check.fails(t, "no bell, no way", ARGUMENT, () -> t.note(100, 1, 1, 'x'));
        Check.same("notes()", t.notes(), 3);
    }

    /** Every character there is, a hundred of them for each table. */
    private static void noteWays() {
        for (int first = 0; first < 65536; first += 100) {
            WhiteclothTable t = Tables.withBells(7);
            int many = 0;
            for (int way = first; way < first + 100 && way < 65536; way++) {
                char asked = (char) way;
                if ("rsmde".indexOf(asked) >= 0) {
                    many++;
                    Check.same("note " + asked, t.note(way, 7, 1, asked), many);
                } else {
                    Check.fails(t, "way " + way, ARGUMENT, () -> t.note(300, 7, 1, asked));
                }
            }
            Check.same("notes()", t.notes(), many);
        }
    }

    private static void lastNumbersTogether() {
        int[][] notes = {{0, 0, 1}, {0, 59, 1}, {0, 0, 64}, {400, 0, 1}, {400, 59, 64}, {0, 59, 64}, {400, 59, 1}};
        for (int[] n : notes) {
            WhiteclothTable t = Tables.withBells(0, 59);
            String call = "note(" + n[0] + ", " + n[1] + ", " + n[2] + ")";
            Check.same(call, t.note(n[0], n[1], n[2], 's'), 1);
            Check.same("tickOf, " + call, t.tickOf(0), n[0]);
            Check.same("pitchOf, " + call, t.pitchOf(0), n[1]);
            int level = n[1] == 0 ? 60 * 19 / 10 : 66;
            Check.same("levelAt its first tick, " + call, t.levelAt(n[0]), level);
            Check.same("levelAt its last tick, " + call, t.levelAt(n[0] + n[2] - 1), level);
            Check.same("levelAt the tick behind, " + call, t.levelAt(n[0] + n[2]), 0);
        }
    }

    private static void everyBell() {
        for (int pitch = 0; pitch < 60; pitch++) {
            WhiteclothTable t = new WhiteclothTable();
            Check.no("setBell " + pitch, t.setBell(pitch, true));
            Check.yes("setBell again " + pitch, t.setBell(pitch, true));
            Check.same("note of " + pitch, t.note(0, pitch, 1, 'r'), 1);
            Check.same("drop of " + pitch, t.drop(0), 0);
            Check.yes("setBell false " + pitch, t.setBell(pitch, false));
            Check.no("setBell false again " + pitch, t.setBell(pitch, false));
            int asked = pitch;
            Check.fails(t, "note of the one taken away " + pitch, UNSUPPORTED, () -> t.note(0, asked, 1, 'r'));
        }
    }

    private static void weightOfEveryBell() {
        int weight = 10;
        int next = 0;
        for (int pitch = 0; pitch < 60; pitch++) {
            if (next < 9 && pitch == Traces.HEAVIEST[next]) {
                weight--;
                next++;
            }
            WhiteclothTable t = Tables.withBells(pitch);
            for (int strength = 1; strength <= 9; strength++) {
                t.addPlayer(strength, 0);
                int asked = pitch;
                int player = strength - 1;
                if (strength < weight) {
                    Check.fails(t, "give " + pitch + " to " + strength, UNSUPPORTED, () -> t.give(asked, player));
                } else {
                    Check.same("give " + pitch + " to " + strength, t.give(pitch, player),
                            strength == weight ? -1 : player - 1);
                }
            }
            t.note(0, pitch, 1, 'r');
            Check.same("loadOf, a note of " + pitch, t.loadOf(8), weight);
        }
        Check.same("the weight of bell 59", weight, 1);
    }

    private static void overlaps() {
        WhiteclothTable t = new WhiteclothTable();
        t.setBell(7, true);
        t.setBell(8, true);
        t.note(10, 7, 5, 'r');
        Check.fails(t, "same ticks", UNSUPPORTED, () -> t.note(10, 7, 5, 'r'));
        Check.fails(t, "last tick", UNSUPPORTED, () -> t.note(14, 7, 1, 'r'));
        Check.fails(t, "first tick", UNSUPPORTED, () -> t.note(8, 7, 3, 'r'));
        Check.fails(t, "inside", UNSUPPORTED, () -> t.note(12, 7, 1, 'r'));
        Check.fails(t, "around", UNSUPPORTED, () -> t.note(0, 7, 64, 'r'));
        Check.same("right behind", t.note(15, 7, 1, 'r'), 2);
        Check.same("right ahead", t.note(8, 7, 2, 'r'), 3);
        Check.same("another bell", t.note(10, 8, 5, 'r'), 4);
    }

    private static void overlapsOfTheLongest() {
        WhiteclothTable t = Tables.withBells(7, 8);
        t.note(100, 7, 64, 'r');
        Check.fails(t, "in its last tick", UNSUPPORTED, () -> t.note(163, 7, 64, 'r'));
        Check.same("right behind it", t.note(164, 7, 64, 'r'), 2);
        Check.fails(t, "till its first tick", UNSUPPORTED, () -> t.note(37, 7, 64, 'r'));
        Check.same("till right ahead of it", t.note(36, 7, 64, 'r'), 3);
        Check.fails(t, "between two", UNSUPPORTED, () -> t.note(99, 7, 2, 'r'));
        Check.same("the bell beside, in all of its ticks", t.note(100, 8, 64, 'r'), 4);
        t.drop(1);
        Check.fails(t, "longer than where it was", UNSUPPORTED, () -> t.note(101, 7, 64, 'r'));
        Check.same("where it was", t.note(100, 7, 64, 'r'), 4);
        WhiteclothTable u = Tables.withBells(7);
        u.note(400, 7, 64, 'r');
        Check.fails(u, "at the last tick again", UNSUPPORTED, () -> u.note(400, 7, 1, 'r'));
        Check.same("right ahead of the last tick", u.note(399, 7, 1, 'r'), 2);
    }

    private static void sixtyNotes() {
        WhiteclothTable t = new WhiteclothTable();
        t.setBell(7, true);
        for (int i = 0; i < 60; i++) {
            Check.same("note", t.note(2 * i, 7, 1, 'r'), i + 1);
        }
        Check.fails(t, "the 61st", STATE, () -> t.note(201, 7, 1, 'r'));
        Check.fails(t, "the 61st where one is", UNSUPPORTED, () -> t.note(2, 7, 1, 'r'));
        Check.fails(t, "the 61st of no bell", UNSUPPORTED, () -> t.note(201, 8, 1, 'r'));
        Check.fails(t, "the 61st of no way", ARGUMENT, () -> t.note(201, 7, 1, 'q'));
        Check.same("drop", t.drop(59), 59);
        Check.same("note", t.note(201, 7, 1, 'r'), 60);
    }

    private static void order() {
        WhiteclothTable t = new WhiteclothTable();
        t.setBell(7, true);
        t.setBell(9, true);
        t.setBell(8, true);
        t.note(5, 9, 1, 'r');
        t.note(5, 7, 1, 'r');
        t.note(4, 9, 1, 'r');
        t.note(5, 8, 1, 'r');
        t.note(6, 7, 1, 'r');
        int[] ticks = {4, 5, 5, 5, 6};
        int[] pitches = {9, 7, 8, 9, 7};
        for (int i = 0; i < 5; i++) {
            Check.same("tickOf " + i, t.tickOf(i), ticks[i]);
            Check.same("pitchOf " + i, t.pitchOf(i), pitches[i]);
        }
        Check.fails(t, "tickOf(-1)", INDEX, () -> t.tickOf(-1));
        Check.fails(t, "tickOf(5)", INDEX, () -> t.tickOf(5));
        Check.fails(t, "pitchOf(-1)", INDEX, () -> t.pitchOf(-1));
        Check.fails(t, "pitchOf(5)", INDEX, () -> t.pitchOf(5));
    }

    /** Told in every order of four: the order of the notes is the same. */
    private static void orderOfLikeTicks() {
        int[][] notes = {{7, 20}, {8, 3}, {8, 4}, {8, 59}};
        for (int code = 0; code < 256; code++) {
            int[] told = {code & 3, code >> 2 & 3, code >> 4 & 3, code >> 6};
            if ((1 << told[0] | 1 << told[1] | 1 << told[2] | 1 << told[3]) != 15) {
                continue;
            }
            WhiteclothTable t = Tables.withBells(3, 4, 20, 59);
            for (int which : told) {
                t.note(notes[which][0], notes[which][1], 5, 'r');
            }
            for (int i = 0; i < 4; i++) {
                Check.same("tickOf " + i, t.tickOf(i), notes[i][0]);
                Check.same("pitchOf " + i, t.pitchOf(i), notes[i][1]);
            }
        }
    }

    private static void dropAtEveryPlace() {
        for (int dropped = 0; dropped < 60; dropped++) {
            WhiteclothTable t = Tables.withBells(30);
            for (int i = 0; i < 60; i++) {
                t.note(5 * i, 30, 5, 'r');
            }
            Check.same("drop " + dropped, t.drop(dropped), 59);
            Check.same("notes()", t.notes(), 59);
            for (int i = 0; i < 59; i++) {
                Check.same("tickOf " + i + " without " + dropped, t.tickOf(i), i < dropped ? 5 * i : 5 * i + 5);
            }
            Check.fails(t, "tickOf(59)", INDEX, () -> t.tickOf(59));
            Check.fails(t, "drop(59)", INDEX, () -> t.drop(59));
            Check.same("note, where it was", t.note(5 * dropped, 30, 5, 'r'), 60);
        }
    }

    private static void drops() {
        WhiteclothTable t = new WhiteclothTable();
        t.setBell(7, true);
        Check.fails(t, "drop(0) of none", INDEX, () -> t.drop(0));
        t.note(0, 7, 1, 'r');
        t.note(1, 7, 1, 'r');
        t.note(2, 7, 1, 'r');
        t.slip(1, 9);
        Check.fails(t, "drop(3)", INDEX, () -> t.drop(3));
        Check.fails(t, "drop(-1)", INDEX, () -> t.drop(-1));
        Check.same("drop(0)", t.drop(0), 2);
        Check.same("tickOf(0)", t.tickOf(0), 1);
        Check.same("slip(0, 0), moved with its note", t.slip(0, 0), 9);
        t.slip(0, 9);
        Check.same("drop(0)", t.drop(0), 1);
        t.note(1, 7, 1, 'r');
        Check.same("slip(0, 0) of a new note", t.slip(0, 0), 0);
        Check.same("notes()", t.notes(), 2);
    }

    private static void transpositions() {
        WhiteclothTable t = new WhiteclothTable();
        Check.same("transpose(59) of none", t.transpose(59), 0);
        Check.same("transpose(-59) of none", t.transpose(-59), 0);
        Check.fails(t, "transpose(60)", ARGUMENT, () -> t.transpose(60));
        Check.fails(t, "transpose(-60)", ARGUMENT, () -> t.transpose(-60));
        t.setBell(0, true);
        t.setBell(1, true);
        t.setBell(2, true);
        t.setBell(59, true);
        t.note(3, 0, 2, 'r');
        t.note(3, 1, 2, 'm');
        t.slip(1, -7);
        Check.same("transpose(0)", t.transpose(0), 2);
        Check.same("transpose(1)", t.transpose(1), 2);
        Check.same("pitchOf(0)", t.pitchOf(0), 1);
        Check.same("pitchOf(1)", t.pitchOf(1), 2);
        Check.same("slip(1)", t.slip(1, -7), -7);
        Check.fails(t, "transpose(1) without a bell 3", UNSUPPORTED, () -> t.transpose(1));
        Check.fails(t, "transpose(-2) below 0", UNSUPPORTED, () -> t.transpose(-2));
        Check.fails(t, "transpose(59) above 59", UNSUPPORTED, () -> t.transpose(59));
        Check.fails(t, "transpose(max)", ARGUMENT, () -> t.transpose(Integer.MAX_VALUE));
        Check.same("pitchOf(0)", t.pitchOf(0), 1);
        t.drop(0);
        Check.same("transpose(57)", t.transpose(57), 1);
        Check.same("pitchOf(0)", t.pitchOf(0), 59);
        Check.yes("setBell(2, false)", t.setBell(2, false));
        Check.fails(t, "setBell(59, false)", UNSUPPORTED, () -> t.setBell(59, false));
    }

    private static void transposeByTheMost() {
        WhiteclothTable t = Tables.withBells(0, 58, 59);
        t.note(11, 0, 3, 'm');
        Check.same("transpose(59)", t.transpose(59), 1);
        Check.same("pitchOf(0)", t.pitchOf(0), 59);
        Check.yes("setBell(0, false)", t.setBell(0, false));
        Check.fails(t, "transpose(-59) without bell 0", UNSUPPORTED, () -> t.transpose(-59));
        Check.fails(t, "transpose(1) above 59", UNSUPPORTED, () -> t.transpose(1));
        Check.fails(t, "transpose(59) above 59", UNSUPPORTED, () -> t.transpose(59));
        t.setBell(0, true);
        Check.same("transpose(-59)", t.transpose(-59), 1);
        Check.same("pitchOf(0)", t.pitchOf(0), 0);
        Check.fails(t, "transpose(-1) below 0", UNSUPPORTED, () -> t.transpose(-1));
        Check.fails(t, "transpose(-59) below 0", UNSUPPORTED, () -> t.transpose(-59));
        Check.same("transpose(58)", t.transpose(58), 1);
        Check.same("pitchOf(0)", t.pitchOf(0), 58);
        Check.same("transpose(0)", t.transpose(0), 1);
        Check.same("pitchOf(0)", t.pitchOf(0), 58);
    }

    /** Ticks, lengths, ways and slips go with the notes; players and strokes stay with the bells. */
    private static void transposedNotesKeepTheRest() {
        WhiteclothTable t = Tables.withBells(10, 11, 12);
        t.addPlayer(9, 0);
        t.addPlayer(9, 1);
        t.give(10, 0);
        t.give(11, 1);
        t.note(5, 10, 4, 's');
        t.note(6, 11, 3, 'm');
        t.slip(0, 7);
        t.slip(1, -9);
        Check.same("perform()", t.perform(), 4);
        Check.same("transpose(1)", t.transpose(1), 2);
        Check.same("tickOf(0)", t.tickOf(0), 5);
        Check.same("tickOf(1)", t.tickOf(1), 6);
        Check.same("pitchOf(0)", t.pitchOf(0), 11);
        Check.same("pitchOf(1)", t.pitchOf(1), 12);
        Check.same("ownerOf(10)", t.ownerOf(10), 0);
        Check.same("ownerOf(11)", t.ownerOf(11), 1);
        Check.same("ownerOf(12)", t.ownerOf(12), -1);
        Check.same("strokesOf(10)", t.strokesOf(10), 3);
        Check.same("strokesOf(11)", t.strokesOf(11), 1);
        Check.same("strokesOf(12)", t.strokesOf(12), 0);
        Check.same("lateOf(0), now player 1's", t.lateOf(0), 8);
        // Bells 11 and 12 weigh 7 both: 60 * 17 / 10, and with it 80, 70, 60 * 17 / 10.
        int[] levels = {0, 102, 102 + 136, 102 + 119, 102 + 102, 0};
        for (int i = 0; i < 6; i++) {
            Check.same("levelAt " + (4 + i), t.levelAt(4 + i), levels[i]);
        }
        Check.same("slip(0)", t.slip(0, 0), 7);
        Check.same("slip(1)", t.slip(1, 0), -9);
        Check.same("transpose(-1)", t.transpose(-1), 2);
        Check.same("ownedShare()", t.ownedShare(), 1.0f);
    }

    private static void twoTablesApart() {
        WhiteclothTable t = Tables.SMALL.make();
        WhiteclothTable u = Tables.SMALL.make();
        long before = u.checksum();
        t.drop(6);
        t.perform();
        t.swap(0, 1);
        t.setRest(8);
        t.give(40, -1);
        t.transpose(0);
        t.addChoir(99, 200);
        t.endPage(9);
        t.addPlayer(1, 1);
        Check.same("checksum() of the other table", u.checksum(), before);
        Check.same("addPlayer on the other table", u.addPlayer(1, 1), 3);
        Check.same("endPage on the other table", u.endPage(1), 3);
        Check.same("addChoir on the other table", u.addChoir(1, 1), 2);
    }
}
