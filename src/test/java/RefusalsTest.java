import java.util.NoSuchElementException;

/**
 * Each exception of each promise, at the first number that is not allowed and at the farthest ones, on a table with a
 * little of all and on a full one; behind each refused call nothing has changed.
 */
final class RefusalsTest {
    private static final Class<IllegalArgumentException> ARGUMENT = IllegalArgumentException.class;
    private static final Class<UnsupportedOperationException> UNSUPPORTED = UnsupportedOperationException.class;
    private static final Class<IllegalStateException> STATE = IllegalStateException.class;
    private static final Class<IndexOutOfBoundsException> INDEX = IndexOutOfBoundsException.class;
    private static final Class<NoSuchElementException> NONE = NoSuchElementException.class;
    private static final Class<ArithmeticException> ARITHMETIC = ArithmeticException.class;
    private static final int MIN = Integer.MIN_VALUE;
    private static final int MAX = Integer.MAX_VALUE;
    private static final Traces.Recipe[] ALL = {Tables.EMPTY, Tables.SMALL, Tables.STUCK, Tables.WORN, Tables.FULL};
    private static final String[] NAMES = {"empty", "small", "stuck", "worn", "full"};
    private static final int[] NOTES = {0, 8, 4, 41, 60};
    private static final int[] PLAYERS = {0, 3, 3, 1, 12};
    private static final int[] PAGES = {0, 2, 2, 0, 8};
    private static final int[] CHOIRS = {0, 2, 0, 0, 6};

    public static void main(String[] args) {
        pitches();
        bellWithNotes();
        noteNumbers();
        noteWays();
        noteOfNoBell();
        noteWhereOneIs();
        noteBeyondSixty();
        noSuchNote();
        transposeRange();
        transposeWithoutBell();
        playerNumbers();
        playerBeyondTwelve();
        noSuchPlayer();
        giveWithoutBell();
        giveTooHeavy();
        restRange();
        noPlan();
        nobodysNote();
        noDeal();
        slipRange();
        levelRange();
        noNotes();
        pageRange();
        pageBeyondEight();
        noSuchPage();
        noTurn();
        cannotPerform();
        choirNumbers();
        choirBeyondSix();
        noSuchChoir();
        noPlayers();
        Check.end("RefusalsTest");
    }

    private static int[] outside(int least, int most) {
        return new int[] {least - 1, most + 1, MIN, MAX};
    }

    private static void onAll(String name, Class<? extends RuntimeException> due, Traces.Call call) {
        for (int i = 0; i < ALL.length; i++) {
            Traces.refused(name + " on the " + NAMES[i] + " table", ALL[i], due, call);
        }
    }

    private static void pitches() {
        for (int pitch : outside(0, 59)) {
            onAll("setBell(" + pitch + ", true)", ARGUMENT, t -> t.setBell(pitch, true));
            onAll("setBell(" + pitch + ", false)", ARGUMENT, t -> t.setBell(pitch, false));
            onAll("ownerOf(" + pitch + ")", ARGUMENT, t -> t.ownerOf(pitch));
            onAll("strokesOf(" + pitch + ")", ARGUMENT, t -> t.strokesOf(pitch));
            onAll("serve(" + pitch + ")", ARGUMENT, t -> t.serve(pitch));
            onAll("give(" + pitch + ", -1)", ARGUMENT, t -> t.give(pitch, -1));
            Traces.refused("give(" + pitch + ", 2)", Tables.SMALL, ARGUMENT, t -> t.give(pitch, 2));
            Traces.refused("give(" + pitch + ", 11)", Tables.FULL, ARGUMENT, t -> t.give(pitch, 11));
        }
    }

    private static void bellWithNotes() {
        for (int pitch : new int[] {10, 20, 40, 41, 50, 59}) {
            Traces.refused("setBell(" + pitch + ", false)", Tables.SMALL, UNSUPPORTED, t -> t.setBell(pitch, false));
        }
        for (int pitch : new int[] {0, 1, 30, 58, 59}) {
            Traces.refused("setBell(" + pitch + ", false)", Tables.FULL, UNSUPPORTED, t -> t.setBell(pitch, false));
        }
        Traces.refused("setBell(50, false), worn", Tables.WORN, UNSUPPORTED, t -> t.setBell(50, false));
    }

    private static void noteNumbers() {
        for (int tick : outside(0, 400)) {
            onAll("note at tick " + tick, ARGUMENT, t -> t.note(tick, 50, 1, 'r'));
        }
        for (int pitch : outside(0, 59)) {
            onAll("note of pitch " + pitch, ARGUMENT, t -> t.note(300, pitch, 1, 'r'));
        }
        for (int length : outside(1, 64)) {
            onAll("note of length " + length, ARGUMENT, t -> t.note(300, 50, length, 'r'));
        }
    }

    private static void noteWays() {
        for (char way : new char[] {'q', 't', 'l', 'n', 'c', 'f', 'R', 'S', 'M', 'D', 'E', ' ', 0, 'r' + 256, 65535}) {
            onAll("note of way " + (int) way, ARGUMENT, t -> t.note(300, 50, 1, way));
        }
    }

    private static void noteOfNoBell() {
        for (int pitch : new int[] {0, 11, 58}) {
            Traces.refused("note of no bell " + pitch, Tables.EMPTY, UNSUPPORTED, t -> t.note(300, pitch, 1, 'r'));
            Traces.refused("note of no bell " + pitch, Tables.SMALL, UNSUPPORTED, t -> t.note(300, pitch, 1, 'r'));
        }
    }

    /** Bell 40 has notes in ticks 0 to 3 and 9 to 14, bell 50 in ticks 20, 21 and 400 to 463. */
    private static void noteWhereOneIs() {
        int[][] ticksAndLengths = {{0, 1}, {0, 4}, {0, 64}, {3, 1}, {3, 6}, {4, 6}, {9, 6}, {10, 1}, {14, 1}, {14, 64}};
        for (int[] note : ticksAndLengths) {
            Traces.refused("note(" + note[0] + ", 40, " + note[1] + ")", Tables.SMALL, UNSUPPORTED,
                    t -> t.note(note[0], 40, note[1], 's'));
        }
        Traces.refused("note(337, 50, 64)", Tables.SMALL, UNSUPPORTED, t -> t.note(337, 50, 64, 'd'));
        Traces.refused("note(400, 50, 1)", Tables.SMALL, UNSUPPORTED, t -> t.note(400, 50, 1, 'd'));
        Traces.refused("note(19, 50, 2)", Tables.SMALL, UNSUPPORTED, t -> t.note(19, 50, 2, 'd'));
    }

    private static void noteBeyondSixty() {
        Traces.refused("the 61st note", Tables.FULL, STATE, t -> t.note(300, 0, 1, 'r'));
        Traces.refused("the 61st note", Tables.FULL, STATE, t -> t.note(400, 59, 64, 'e'));
    }

    private static void noSuchNote() {
        for (int i = 0; i < ALL.length; i++) {
            for (int note : outside(0, NOTES[i] - 1)) {
                String on = "(" + note + ") on the " + NAMES[i] + " table";
                Traces.refused("drop" + on, ALL[i], INDEX, t -> t.drop(note));
                Traces.refused("tickOf" + on, ALL[i], INDEX, t -> t.tickOf(note));
                Traces.refused("pitchOf" + on, ALL[i], INDEX, t -> t.pitchOf(note));
                Traces.refused("handOf" + on, ALL[i], INDEX, t -> t.handOf(note));
                Traces.refused("slip" + on, ALL[i], INDEX, t -> t.slip(note, 5));
                Traces.refused("lateOf" + on, ALL[i], INDEX, t -> t.lateOf(note));
                Traces.refused("carries" + on, ALL[i], INDEX, t -> t.carries(note));
            }
        }
    }

    private static void transposeRange() {
        for (int by : outside(-59, 59)) {
            onAll("transpose(" + by + ")", ARGUMENT, t -> t.transpose(by));
        }
    }

    /** On the full table each bell has a note: up or down by one, a single note has no bell. */
    private static void transposeWithoutBell() {
        for (int by : new int[] {-59, -10, -1, 1, 10, 59}) {
            Traces.refused("transpose(" + by + ")", Tables.SMALL, UNSUPPORTED, t -> t.transpose(by));
            Traces.refused("transpose(" + by + ")", Tables.FULL, UNSUPPORTED, t -> t.transpose(by));
        }
        Traces.Recipe gap = () -> {
            WhiteclothTable t = Tables.withBells(10, 11, 12, 13, 15);
            t.note(0, 10, 1, 'r');
            t.note(0, 11, 1, 'r');
            t.note(0, 12, 1, 'r');
            return t;
        };
        Traces.refused("transpose(2), the middle one has no bell", gap, UNSUPPORTED, t -> t.transpose(2));
        Traces.refused("transpose(3), the last one alone has a bell", gap, UNSUPPORTED, t -> t.transpose(3));
    }

    private static void playerNumbers() {
        for (int strength : outside(1, 9)) {
            onAll("addPlayer(" + strength + ", 0)", ARGUMENT, t -> t.addPlayer(strength, 0));
        }
        for (int leaning : outside(-3, 3)) {
            onAll("addPlayer(5, " + leaning + ")", ARGUMENT, t -> t.addPlayer(5, leaning));
        }
    }

    private static void playerBeyondTwelve() {
        Traces.refused("the 13th player", Tables.FULL, STATE, t -> t.addPlayer(1, -3));
        Traces.refused("the 13th player", Tables.FULL, STATE, t -> t.addPlayer(9, 3));
    }

    private static void noSuchPlayer() {
        for (int i = 0; i < ALL.length; i++) {
            for (int player : outside(0, PLAYERS[i] - 1)) {
                int last = PLAYERS[i] - 1;
                String on = "(" + player + ") on the " + NAMES[i] + " table";
                Traces.refused("swap with first" + on, ALL[i], INDEX, t -> t.swap(player, last));
                Traces.refused("swap with second" + on, ALL[i], INDEX, t -> t.swap(0, player));
                Traces.refused("swap with both" + on, ALL[i], INDEX, t -> t.swap(player, player));
                Traces.refused("placeOf" + on, ALL[i], INDEX, t -> t.placeOf(player));
                Traces.refused("hasPlan" + on, ALL[i], INDEX, t -> t.hasPlan(player));
                Traces.refused("changes" + on, ALL[i], INDEX, t -> t.changes(player));
                Traces.refused("loadOf" + on, ALL[i], INDEX, t -> t.loadOf(player));
                Traces.refused("turnOf" + on, ALL[i], INDEX, t -> t.turnOf(player, 0));
                if (player != -1) {
                    Traces.refused("give" + on, ALL[i], INDEX, t -> t.give(50, player));
                }
            }
            Traces.refused("give(50, -2)", ALL[i], INDEX, t -> t.give(50, -2));
        }
    }

    private static void giveWithoutBell() {
        for (int pitch : new int[] {0, 9, 11, 58}) {
            Traces.refused("give(" + pitch + ", -1)", Tables.EMPTY, UNSUPPORTED, t -> t.give(pitch, -1));
            Traces.refused("give(" + pitch + ", -1)", Tables.SMALL, UNSUPPORTED, t -> t.give(pitch, -1));
            Traces.refused("give(" + pitch + ", 0)", Tables.SMALL, UNSUPPORTED, t -> t.give(pitch, 0));
        }
    }

    /** Bell 10 weighs 8, bell 30 weighs 5, bell 20 weighs 6; players 1 and 2 are as strong as 3 and 6. */
    private static void giveTooHeavy() {
        Traces.refused("give(10, 1)", Tables.SMALL, UNSUPPORTED, t -> t.give(10, 1));
        Traces.refused("give(10, 2)", Tables.SMALL, UNSUPPORTED, t -> t.give(10, 2));
        Traces.refused("give(20, 1)", Tables.SMALL, UNSUPPORTED, t -> t.give(20, 1));
        Traces.refused("give(30, 1)", Tables.SMALL, UNSUPPORTED, t -> t.give(30, 1));
        // The lightest bell that is too heavy for each strength of 1 to 8, which players 11, 10, 9, 8, 6 .. have.
        int[] players = {11, 10, 9, 8, 6, 5, 4, 2};
        for (int i = 0; i < players.length; i++) {
            int player = players[i];
            int pitch = 52 - 7 * i;
            Traces.refused("give(" + pitch + ", " + player + ")", Tables.FULL, UNSUPPORTED,
                    t -> t.give(pitch, player));
        }
    }

    private static void restRange() {
        for (int ticks : outside(0, 8)) {
            onAll("setRest(" + ticks + ")", ARGUMENT, t -> t.setRest(ticks));
        }
    }

    private static void noPlan() {
        Traces.refused("changes(0)", Tables.STUCK, NONE, t -> t.changes(0));
        for (int note = 0; note < 3; note++) {
            int asked = note;
            Traces.refused("handOf(" + note + ")", Tables.STUCK, NONE, t -> t.handOf(asked));
        }
        Traces.refused("turnOf(0, 0)", Tables.STUCK, NONE, t -> t.turnOf(0, 0));
        // Far from all notes too: without a plan no page is turned.
        Traces.refused("turnOf(0, 1)", Tables.STUCK, NONE, t -> t.turnOf(0, 1));
    }

    /** Note 6 of the small table is of bell 59, which nobody has. */
    private static void nobodysNote() {
        Traces.refused("handOf(6)", Tables.SMALL, NONE, t -> t.handOf(6));
        Traces.refused("lateOf(6)", Tables.SMALL, NONE, t -> t.lateOf(6));
        Traces.Recipe nobodys = () -> {
            WhiteclothTable t = Tables.withAllBells();
            t.addPlayer(9, 3);
            t.give(9, 0);
            t.note(5, 10, 3, 'r');
            t.slip(0, 50);
            return t;
        };
        Traces.refused("handOf(0)", nobodys, NONE, t -> t.handOf(0));
        Traces.refused("lateOf(0)", nobodys, NONE, t -> t.lateOf(0));
        Traces.refused("mostLate()", nobodys, NONE, t -> t.mostLate());
        Traces.refused("perform()", nobodys, UNSUPPORTED, t -> t.perform());
    }

    private static void noDeal() {
        Traces.refused("deal()", Tables.STUCK, NONE, t -> t.deal());
        Traces.refused("fewest()", Tables.STUCK, NONE, t -> t.fewest());
        Traces.Recipe withoutPlayers = () -> {
            WhiteclothTable t = Tables.withBells(59);
            t.note(0, 59, 1, 'r');
            return t;
        };
        Traces.refused("deal()", withoutPlayers, NONE, t -> t.deal());
        Traces.refused("fewest()", withoutPlayers, NONE, t -> t.fewest());
        Traces.Recipe tooWeak = () -> {
            WhiteclothTable t = Tables.withBells(30, 52, 53);
            t.addPlayer(1, 0);
            t.addPlayer(9, 0);
            t.give(30, 1);
            t.give(52, 1);
            t.give(53, 0);
            t.note(0, 52, 1, 'r');
            t.note(0, 53, 1, 'r');
            return t;
        };
        Traces.refused("deal(), the first one too weak", tooWeak, NONE, t -> t.deal());
        Traces.refused("fewest(), the first one too weak", tooWeak, NONE, t -> t.fewest());
    }

    private static void slipRange() {
        for (int by : outside(-50, 50)) {
            Traces.refused("slip(0, " + by + ")", Tables.SMALL, ARGUMENT, t -> t.slip(0, by));
            Traces.refused("slip(6, " + by + ")", Tables.SMALL, ARGUMENT, t -> t.slip(6, by));
            Traces.refused("slip(59, " + by + ")", Tables.FULL, ARGUMENT, t -> t.slip(59, by));
        }
    }

    private static void levelRange() {
        for (int tick : outside(0, 500)) {
            onAll("levelAt(" + tick + ")", ARGUMENT, t -> t.levelAt(tick));
        }
    }

    private static void noNotes() {
        Traces.Recipe withoutNotes = () -> {
            WhiteclothTable t = Tables.withAllBells();
            t.addPlayer(9, 3);
            for (int pitch = 0; pitch < 60; pitch++) {
                t.give(pitch, 0);
            }
            return t;
        };
        for (Traces.Recipe recipe : new Traces.Recipe[] {Tables.EMPTY, withoutNotes}) {
            Traces.refused("mostLate()", recipe, NONE, t -> t.mostLate());
            Traces.refused("loudest()", recipe, NONE, t -> t.loudest());
            Traces.refused("ownedShare()", recipe, ARITHMETIC, t -> t.ownedShare());
        }
    }

    private static void pageRange() {
        for (int tick : outside(0, 400)) {
            onAll("endPage(" + tick + ")", ARGUMENT, t -> t.endPage(tick));
        }
    }

    private static void pageBeyondEight() {
        Traces.refused("the 9th page", Tables.FULL, STATE, t -> t.endPage(0));
        Traces.refused("the 9th page", Tables.FULL, STATE, t -> t.endPage(400));
    }

    private static void noSuchPage() {
        for (int i = 0; i < ALL.length; i++) {
            for (int page : outside(0, PAGES[i] - 1)) {
                for (int p = 0; p < PLAYERS[i]; p += 2) {
                    int player = p;
                    Traces.refused("turnOf(" + player + ", " + page + ") on the " + NAMES[i] + " table", ALL[i], INDEX,
                            t -> t.turnOf(player, page));
                }
            }
        }
    }

    private static void noTurn() {
        Traces.Recipe busy = () -> {
            WhiteclothTable t = Tables.withBells(50, 51);
            t.addPlayer(9, 0);
            t.addPlayer(9, 0);
            t.give(50, 0);
            t.give(51, 0);
            t.note(94, 50, 14, 'r');
            t.note(93, 51, 14, 's');
            t.endPage(100);
            return t;
        };
        Traces.refused("turnOf(0, 0)", busy, NONE, t -> t.turnOf(0, 0));
        Check.same("turnOf(1, 0)", busy.make().turnOf(1, 0), 94);
    }

    private static void cannotPerform() {
        Traces.refused("perform() with nobody's note", Tables.SMALL, UNSUPPORTED, t -> t.perform());
        Traces.refused("perform() without a plan", Tables.STUCK, UNSUPPORTED, t -> t.perform());
        Traces.refused("perform() with a worn bell", Tables.WORN, UNSUPPORTED, t -> t.perform());
        // The last note alone hinders: no stroke of those ahead of it counts.
        Traces.Recipe lastIsNobodys = () -> {
            WhiteclothTable t = Tables.withBells(50, 51);
            t.addPlayer(9, 0);
            t.give(50, 0);
            t.note(0, 50, 1, 's');
            t.note(1, 51, 1, 's');
            return t;
        };
        Traces.refused("perform() with nobody's last note", lastIsNobodys, UNSUPPORTED, t -> t.perform());
    }

    private static void choirNumbers() {
        for (int lag : outside(0, 99)) {
            onAll("addChoir(" + lag + ", 7)", ARGUMENT, t -> t.addChoir(lag, 7));
        }
        for (int metres : outside(0, 200)) {
            onAll("addChoir(7, " + metres + ")", ARGUMENT, t -> t.addChoir(7, metres));
        }
    }

    private static void choirBeyondSix() {
        Traces.refused("the 7th choir", Tables.FULL, STATE, t -> t.addChoir(0, 0));
        Traces.refused("the 7th choir", Tables.FULL, STATE, t -> t.addChoir(99, 200));
    }

    private static void noSuchChoir() {
        for (int i = 0; i < ALL.length; i++) {
            for (int choir : outside(0, CHOIRS[i] - 1)) {
                Traces.refused("aheadOf(" + choir + ") on the " + NAMES[i] + " table", ALL[i], INDEX,
                        t -> t.aheadOf(choir));
            }
        }
    }

    private static void noPlayers() {
        Traces.Recipe withoutPlayers = () -> {
            WhiteclothTable t = Tables.withAllBells();
            t.note(0, 0, 1, 'r');
            return t;
        };
        Traces.refused("meanLoad()", Tables.EMPTY, ARITHMETIC, t -> t.meanLoad());
        Traces.refused("meanLoad()", withoutPlayers, ARITHMETIC, t -> t.meanLoad());
        Traces.refused("mostLate()", withoutPlayers, NONE, t -> t.mostLate());
    }
}
