/** "If several exceptions apply, the exception listed first is thrown": each two that can apply to one call. */
final class FirstListedTest {
    private static final Class<IllegalArgumentException> ARGUMENT = IllegalArgumentException.class;
    private static final Class<UnsupportedOperationException> UNSUPPORTED = UnsupportedOperationException.class;
    private static final Class<IndexOutOfBoundsException> INDEX = IndexOutOfBoundsException.class;
    private static final int MIN = Integer.MIN_VALUE;
    private static final int MAX = Integer.MAX_VALUE;
    /** Sixty notes of bell 50 in ticks 0, 2 .. 118; bell 51 is there, bell 52 is not. */
    private static final Traces.Recipe SIXTY = FirstListedTest::sixty;

    public static void main(String[] args) {
        noteArgumentAheadOfUnsupported();
        noteArgumentAheadOfState();
        noteUnsupportedAheadOfState();
        noteAllThree();
        transposeArgumentAheadOfUnsupported();
        addPlayerArgumentAheadOfState();
        giveIndexAheadOfArgument();
        giveIndexAheadOfUnsupported();
        giveArgumentAheadOfUnsupported();
        playerAheadOfItsPlan();
        noteAheadOfItsPlan();
        slipIndexAheadOfArgument();
        endPageArgumentAheadOfState();
        turnOfIndexAheadOfNone();
        addChoirArgumentAheadOfState();
        Check.end("FirstListedTest");
    }

    private static WhiteclothTable sixty() {
        WhiteclothTable t = Tables.withBells(50, 51);
        t.addPlayer(9, 1);
        t.give(50, 0);
        for (int i = 0; i < 60; i++) {
            t.note(2 * i, 50, 1, 'r');
        }
        return t;
    }

    private static void noteArgumentAheadOfUnsupported() {
        int[][] wrong = {{-1, 0, 1}, {401, 0, 1}, {5, 0, 0}, {5, 0, 65}, {5, -1, 1}, {5, 60, 1},
            {MAX, 0, 1}, {5, 0, MAX}, {MIN, 0, MIN}, {0, 40, 0}, {0, 40, 65}, {-1, 40, 2}, {401, 50, 1}, {-1, 40, MAX},
            {MAX, 40, MAX}};
        for (int[] n : wrong) {
            Traces.refused("note(" + n[0] + ", " + n[1] + ", " + n[2] + "), no bell or one is there", Tables.SMALL,
                    ARGUMENT, t -> t.note(n[0], n[1], n[2], 'r'));
        }
        Traces.refused("note of no way and no bell", Tables.SMALL, ARGUMENT, t -> t.note(5, 0, 1, 'x'));
        Traces.refused("note of no way where one is", Tables.SMALL, ARGUMENT, t -> t.note(0, 40, 1, 'R'));
        Traces.refused("note of no way and no bell", Tables.EMPTY, ARGUMENT, t -> t.note(5, 0, 1, 'x'));
    }

    private static void noteArgumentAheadOfState() {
        int[][] wrong = {{-1, 51, 1}, {401, 51, 1}, {5, -1, 1}, {5, 60, 1}, {5, 51, 0}, {5, 51, 65}};
        for (int[] n : wrong) {
            Traces.refused("the 61st note(" + n[0] + ", " + n[1] + ", " + n[2] + ")", SIXTY, ARGUMENT,
                    t -> t.note(n[0], n[1], n[2], 'r'));
        }
        Traces.refused("the 61st note of no way", SIXTY, ARGUMENT, t -> t.note(5, 51, 1, 'q'));
    }

    private static void noteUnsupportedAheadOfState() {
        Traces.refused("the 61st note of no bell", SIXTY, UNSUPPORTED, t -> t.note(5, 52, 1, 'r'));
        Traces.refused("the 61st note where one is", SIXTY, UNSUPPORTED, t -> t.note(0, 50, 1, 'r'));
        Traces.refused("the 61st note where the last one is", SIXTY, UNSUPPORTED, t -> t.note(117, 50, 2, 'r'));
    }

    private static void noteAllThree() {
        Traces.refused("the 61st note of no bell at -1", SIXTY, ARGUMENT, t -> t.note(-1, 52, 1, 'r'));
        Traces.refused("the 61st note of no bell of no way", SIXTY, ARGUMENT, t -> t.note(5, 52, 1, 'q'));
        Traces.refused("the 61st note of length 65 where one is", SIXTY, ARGUMENT, t -> t.note(0, 50, 65, 'r'));
    }

    private static void transposeArgumentAheadOfUnsupported() {
        for (int by : new int[] {-60, 60, MIN, MAX}) {
            Traces.refused("transpose(" + by + ") to no bell", Tables.SMALL, ARGUMENT, t -> t.transpose(by));
            Traces.refused("transpose(" + by + ") to no bell", SIXTY, ARGUMENT, t -> t.transpose(by));
        }
    }

    private static void addPlayerArgumentAheadOfState() {
        int[][] wrong = {{0, 0}, {10, 0}, {5, -4}, {5, 4}, {MIN, 0}, {MAX, 0}, {5, MIN}, {5, MAX}, {0, 4}};
        for (int[] p : wrong) {
            Traces.refused("the 13th addPlayer(" + p[0] + ", " + p[1] + ")", Tables.FULL, ARGUMENT,
                    t -> t.addPlayer(p[0], p[1]));
        }
    }

    private static void giveIndexAheadOfArgument() {
        int[][] wrong = {{-1, -2}, {60, -2}, {-1, 3}, {60, 3}, {MIN, MAX}, {MAX, MIN}, {-1, 12}};
        for (int[] g : wrong) {
            Traces.refused("give(" + g[0] + ", " + g[1] + ")", Tables.SMALL, INDEX, t -> t.give(g[0], g[1]));
        }
        Traces.refused("give(60, 12)", Tables.FULL, INDEX, t -> t.give(60, 12));
        Traces.refused("give(60, 0) without players", Tables.EMPTY, INDEX, t -> t.give(60, 0));
    }

    private static void giveIndexAheadOfUnsupported() {
        Traces.refused("give(0, 3), no bell", Tables.SMALL, INDEX, t -> t.give(0, 3));
        Traces.refused("give(0, -2), no bell", Tables.SMALL, INDEX, t -> t.give(0, -2));
        Traces.refused("give(0, 0) without bells and players", Tables.EMPTY, INDEX, t -> t.give(0, 0));
    }

    /** There is no bell of a pitch that is out of range, and its weight would be too much for player 1. */
    private static void giveArgumentAheadOfUnsupported() {
        Traces.refused("give(-1, 1)", Tables.SMALL, ARGUMENT, t -> t.give(-1, 1));
        Traces.refused("give(60, 1)", Tables.SMALL, ARGUMENT, t -> t.give(60, 1));
        Traces.refused("give(-1000, 1)", Tables.SMALL, ARGUMENT, t -> t.give(-1000, 1));
    }

    /** The notes of bells that nobody has, -1, are three at once: no plan could be found for them. */
    private static void playerAheadOfItsPlan() {
        Traces.Recipe nobodysThree = () -> {
            WhiteclothTable t = Tables.withBells(0, 1, 2);
            t.addPlayer(9, 0);
            for (int pitch = 0; pitch < 3; pitch++) {
                t.note(0, pitch, 9, 'r');
            }
            t.endPage(3);
            return t;
        };
        for (int player : new int[] {-1, 1}) {
            String on = "(" + player + ") with three notes at once of nobody's";
            Traces.refused("hasPlan" + on, nobodysThree, INDEX, t -> t.hasPlan(player));
            Traces.refused("changes" + on, nobodysThree, INDEX, t -> t.changes(player));
            Traces.refused("loadOf" + on, nobodysThree, INDEX, t -> t.loadOf(player));
            Traces.refused("turnOf" + on, nobodysThree, INDEX, t -> t.turnOf(player, 0));
        }
        Traces.refused("changes(3)", Tables.STUCK, INDEX, t -> t.changes(3));
        Check.yes("hasPlan(0)", nobodysThree.make().hasPlan(0));
    }

    private static void noteAheadOfItsPlan() {
        Traces.refused("handOf(4)", Tables.STUCK, INDEX, t -> t.handOf(4));
        Traces.refused("handOf(-1)", Tables.STUCK, INDEX, t -> t.handOf(-1));
        Traces.refused("lateOf(8)", Tables.SMALL, INDEX, t -> t.lateOf(8));
        Traces.refused("lateOf(-1)", Tables.SMALL, INDEX, t -> t.lateOf(-1));
    }

    private static void slipIndexAheadOfArgument() {
        for (int by : new int[] {-51, 51, MIN, MAX}) {
            Traces.refused("slip(-1, " + by + ")", Tables.SMALL, INDEX, t -> t.slip(-1, by));
            Traces.refused("slip(8, " + by + ")", Tables.SMALL, INDEX, t -> t.slip(8, by));
            Traces.refused("slip(60, " + by + ")", Tables.FULL, INDEX, t -> t.slip(60, by));
            Traces.refused("slip(0, " + by + ") without notes", Tables.EMPTY, INDEX, t -> t.slip(0, by));
        }
    }

    private static void endPageArgumentAheadOfState() {
        for (int tick : new int[] {-1, 401, MIN, MAX}) {
            Traces.refused("the 9th endPage(" + tick + ")", Tables.FULL, ARGUMENT, t -> t.endPage(tick));
        }
    }

    private static void turnOfIndexAheadOfNone() {
        Traces.refused("turnOf(0, 2), no plan", Tables.STUCK, INDEX, t -> t.turnOf(0, 2));
        Traces.refused("turnOf(0, -1), no plan", Tables.STUCK, INDEX, t -> t.turnOf(0, -1));
        Traces.refused("turnOf(3, 0)", Tables.STUCK, INDEX, t -> t.turnOf(3, 0));
        Traces.refused("turnOf(3, 2)", Tables.STUCK, INDEX, t -> t.turnOf(3, 2));
        Traces.refused("turnOf(0, 0) without pages, no plan", () -> {
            WhiteclothTable t = Tables.withBells(0, 1, 2);
            t.addPlayer(9, 0);
            for (int pitch = 0; pitch < 3; pitch++) {
                t.give(pitch, 0);
                t.note(0, pitch, 9, 'r');
            }
            return t;
        }, INDEX, t -> t.turnOf(0, 0));
    }

    private static void addChoirArgumentAheadOfState() {
        int[][] wrong = {{-1, 0}, {100, 0}, {0, -1}, {0, 201}, {MIN, 0}, {MAX, 0}, {0, MIN}, {0, MAX}, {100, 201}};
        for (int[] c : wrong) {
            Traces.refused("the 7th addChoir(" + c[0] + ", " + c[1] + ")", Tables.FULL, ARGUMENT,
                    t -> t.addChoir(c[0], c[1]));
        }
    }
}
