/** Tables that the tests make again and again; none takes more than 210 of the 512 calls. */
final class Tables {
    static final Traces.Recipe EMPTY = WhiteclothTable::new;
    static final Traces.Recipe SMALL = Tables::small;
    static final Traces.Recipe STUCK = Tables::stuck;
    static final Traces.Recipe WORN = Tables::worn;
    static final Traces.Recipe FULL = Tables::full;

    private Tables() {
    }

    static WhiteclothTable withBells(int... pitches) {
        WhiteclothTable t = new WhiteclothTable();
        for (int pitch : pitches) {
            t.setBell(pitch, true);
        }
        return t;
    }

    static WhiteclothTable withAllBells() {
        WhiteclothTable t = new WhiteclothTable();
        for (int pitch = 0; pitch < 60; pitch++) {
            t.setBell(pitch, true);
        }
        return t;
    }

    /**
     * Three players, a little of all: seven notes of players, and note 6 of bell 59, which nobody has;
     * bell 30 is player 0's and has no notes. There is no bell 0, and bell 10 is too heavy for players 1 and 2.
     */
    private static WhiteclothTable small() {
        WhiteclothTable t = withBells(10, 20, 30, 40, 41, 50, 59);
        t.addPlayer(9, 1);
        t.addPlayer(3, -2);
        t.addPlayer(6, 3);
        t.swap(0, 2);
        t.setRest(3);
        int[][] gifts = {{10, 0}, {20, 2}, {30, 0}, {40, 1}, {41, 1}, {50, 0}};
        for (int[] gift : gifts) {
            t.give(gift[0], gift[1]);
        }
        t.note(0, 40, 4, 'r');
        t.note(2, 41, 5, 'm');
        t.note(4, 20, 3, 's');
        t.note(9, 40, 6, 'e');
        t.note(12, 10, 8, 'd');
        t.note(20, 50, 2, 's');
        t.note(400, 50, 64, 'r');
        t.slip(0, 30);
        t.slip(4, -17);
        t.perform();
        t.note(390, 59, 20, 'm');
        t.slip(6, 50);
        t.endPage(5);
        t.endPage(400);
        t.addChoir(10, 20);
        t.addChoir(5, 100);
        return t;
    }

    /** Player 0 has three notes at once and no plan, players 1 and 2 are too weak to help; player 1 has bell 59. */
    private static WhiteclothTable stuck() {
        WhiteclothTable t = withBells(0, 1, 2, 50, 59);
        t.addPlayer(9, 2);
        t.addPlayer(1, -3);
        t.addPlayer(2, 0);
        for (int pitch = 0; pitch < 3; pitch++) {
            t.give(pitch, 0);
            t.note(10 + pitch, pitch, 5, "rse".charAt(pitch));
        }
        t.give(50, 2);
        t.give(59, 1);
        t.note(30, 59, 2, 's');
        t.slip(1, 20);
        t.endPage(12);
        t.endPage(40);
        return t;
    }

    /** Bell 50 has been rung 200 times and has a note; bell 51 has one too, and was rung less. */
    private static WhiteclothTable worn() {
        WhiteclothTable t = withBells(50, 51);
        t.addPlayer(9, 0);
        t.give(50, 0);
        t.give(51, 0);
        for (int i = 0; i < 40; i++) {
            t.note(2 * i, 50, 1, i < 30 ? 's' : 'r');
        }
        t.note(100, 51, 4, 's');
        t.perform();
        t.perform();
        return t;
    }

    /** As many bells, notes, players, pages and choirs as there can be; all bells dealt, and rung once. */
    private static WhiteclothTable full() {
        WhiteclothTable t = withAllBells();
        int[] strengths = {9, 9, 8, 8, 7, 6, 5, 5, 4, 3, 2, 1};
        for (int i = 0; i < 12; i++) {
            t.addPlayer(strengths[i], i % 7 - 3);
        }
        for (int i = 0; i < 60; i++) {
            t.note(i * 37 % 401, i, 1 + i % 5 * 4, "rsmde".charAt(i % 5));
        }
        t.deal();
        t.perform();
        for (int i = 0; i < 8; i++) {
            t.endPage(57 * i);
        }
        for (int i = 0; i < 6; i++) {
            t.addChoir(99 - 19 * i, 40 * i);
        }
        return t;
    }
}
