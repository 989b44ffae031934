import java.util.NoSuchElementException;

/** Promises 28 and 29: pages and their turns. */
final class PagesTest {
    private static final Class<NoSuchElementException> NONE = NoSuchElementException.class;
    private static final Class<IllegalStateException> STATE = IllegalStateException.class;
    private static final Class<IllegalArgumentException> ARGUMENT = IllegalArgumentException.class;
    private static final Class<IndexOutOfBoundsException> INDEX = IndexOutOfBoundsException.class;

    public static void main(String[] args) {
        pages();
        idlePlayer();
        busyHands();
        oneFreeTickIsTooShort();
        eitherHand();
        lastTickOfTheWindow();
        everyTickOfTheWindow();
        windowBeginsAtZero();
        lastPageBehindTheLastFirstTick();
        handsMayNotShare();
        bestPlanDecides();
        restIsFree();
        withoutPlan();
        Check.end("PagesTest");
    }

    private static WhiteclothTable table() {
        WhiteclothTable t = new WhiteclothTable();
        t.addPlayer(9, 0);
        for (int pitch = 40; pitch < 60; pitch++) {
            t.setBell(pitch, true);
            t.give(pitch, 0);
        }
        t.setRest(0);
        return t;
    }

    private static void pages() {
        WhiteclothTable t = table();
        Check.fails(t, "turnOf(0, 0) without pages", INDEX, () -> t.turnOf(0, 0));
        Check.fails(t, "endPage(-1)", ARGUMENT, () -> t.endPage(-1));
        Check.fails(t, "endPage(401)", ARGUMENT, () -> t.endPage(401));
        int[] ends = {400, 0, 6, 7, 7, 100, 3, 200};
        int[] turns = {394, 0, 0, 1, 1, 94, 0, 194};
        for (int i = 0; i < 8; i++) {
            Check.same("endPage", t.endPage(ends[i]), i + 1);
        }
        Check.fails(t, "the 9th", STATE, () -> t.endPage(5));
        Check.fails(t, "the 9th at 401", ARGUMENT, () -> t.endPage(401));
        for (int i = 0; i < 8; i++) {
            Check.same("turnOf(0, " + i + ")", t.turnOf(0, i), turns[i]);
        }
        Check.fails(t, "turnOf(0, 8)", INDEX, () -> t.turnOf(0, 8));
        Check.fails(t, "turnOf(0, -1)", INDEX, () -> t.turnOf(0, -1));
        Check.fails(t, "turnOf(1, 0)", INDEX, () -> t.turnOf(1, 0));
        Check.fails(t, "turnOf(-1, 0)", INDEX, () -> t.turnOf(-1, 0));
    }

    private static void idlePlayer() {
        WhiteclothTable t = table();
        t.addPlayer(1, 0);
        t.note(0, 40, 64, 's');
        t.note(0, 41, 64, 's');
        t.endPage(20);
        Check.fails(t, "turnOf(0, 0)", NONE, () -> t.turnOf(0, 0));
        Check.same("turnOf(1, 0)", t.turnOf(1, 0), 14);
    }

    private static void busyHands() {
        WhiteclothTable t = table();
        t.note(0, 40, 20, 'r');
        t.note(0, 41, 16, 'r');
        t.endPage(20);
        Check.same("turnOf(0, 0)", t.turnOf(0, 0), 16);
        t.endPage(10);
        Check.same("turnOf(0, 1)", t.turnOf(0, 1), 16);
        t.endPage(9);
        Check.fails(t, "turnOf(0, 2)", NONE, () -> t.turnOf(0, 2));
    }

    private static void oneFreeTickIsTooShort() {
        WhiteclothTable t = table();
        t.note(0, 40, 40, 'r');
        t.note(0, 41, 16, 'r');
        t.note(17, 41, 2, 'r');
        t.note(21, 41, 19, 'r');
        t.endPage(20);
        Check.same("turnOf(0, 0)", t.turnOf(0, 0), 19);
    }

    /** The note that begins first is in hand 0, so that the free hand is 0 at first, then 1. */
    private static void eitherHand() {
        for (int free = 40; free < 42; free++) {
            WhiteclothTable t = table();
            int busy = 81 - free;
            t.note(0, busy, 50, 'r');
            t.note(0, free, 14, 'r');
            t.note(15, free, 3, 'r');
            t.note(20, free, 30, 'r');
            t.endPage(20);
            Check.same("handOf(0)", t.handOf(0), 0);
            Check.same("turnOf(0, 0)", t.turnOf(0, 0), 18);
            t.drop(free == 40 ? 0 : 1);
            t.note(0, free, 15, 'r');
            Check.same("turnOf(0, 0)", t.turnOf(0, 0), 18);
            t.drop(3);
            t.note(19, free, 30, 'r');
            Check.fails(t, "turnOf(0, 0)", NONE, () -> t.turnOf(0, 0));
        }
    }

    private static void lastTickOfTheWindow() {
        WhiteclothTable t = table();
        t.note(0, 40, 40, 'r');
        t.note(0, 41, 26, 'r');
        t.note(28, 41, 12, 'r');
        t.endPage(20);
        Check.same("turnOf(0, 0)", t.turnOf(0, 0), 26);
        t.endPage(19);
        Check.fails(t, "turnOf(0, 1)", NONE, () -> t.turnOf(0, 1));
    }

    /** A hand that is free in two ticks alone turns there if the first one is 6 ahead of the end to 6 behind it. */
    private static void everyTickOfTheWindow() {
        for (int end : new int[] {12, 100, 390}) {
            for (int free = end - 9; free <= end + 9; free++) {
                WhiteclothTable t = twoTicksFree(free, 2);
                t.endPage(end);
                if (free >= end - 6 && free <= end + 6) {
                    Check.same("turnOf, end " + end + ", free at " + free, t.turnOf(0, 0), free);
                } else {
                    Check.fails(t, "turnOf, end " + end + ", free at " + free, NONE, () -> t.turnOf(0, 0));
                }
                WhiteclothTable u = twoTicksFree(free, 1);
                u.endPage(end);
                Check.fails(u, "turnOf, one tick free at " + free, NONE, () -> u.turnOf(0, 0));
            }
        }
    }

    /** Hand 0 is busy around, hand 1 all but so many ticks from one on. */
    private static WhiteclothTable twoTicksFree(int free, int ticks) {
        WhiteclothTable t = table();
        int first = Math.max(0, free - 30);
        t.note(first, 40, 60, 'r');
        if (free > first) {
            t.note(first, 41, free - first, 'r');
        }
        if (free + ticks <= 400) {
            t.note(free + ticks, 41, 30, 'r');
        }
        return t;
    }

    /** Ahead of tick 0 there is nothing: pages that end at 0 to 6 are turned from 0 on, the next one from 1 on. */
    private static void windowBeginsAtZero() {
        for (int end = 0; end <= 8; end++) {
            WhiteclothTable idle = table();
            idle.endPage(end);
            Check.same("turnOf, end " + end, idle.turnOf(0, 0), end <= 6 ? 0 : end - 6);
            for (int free = 0; free <= end + 7; free++) {
                WhiteclothTable t = twoTicksFree(free, 2);
                t.endPage(end);
                if (free >= end - 6 && free <= end + 6) {
                    Check.same("turnOf, end " + end + ", free at " + free, t.turnOf(0, 0), free);
                } else {
                    Check.fails(t, "turnOf, end " + end + ", free at " + free, NONE, () -> t.turnOf(0, 0));
                }
            }
        }
    }

    private static void lastPageBehindTheLastFirstTick() {
        for (int ends = 392; ends <= 408; ends++) {
            WhiteclothTable t = table();
            t.note(380, 40, 40, 'r');
            t.note(380, 41, ends - 380, 'r');
            t.endPage(400);
            if (ends <= 406) {
                Check.same("turnOf, hand 1 ends at " + ends, t.turnOf(0, 0), Math.max(394, ends));
            } else {
                Check.fails(t, "turnOf, hand 1 ends at " + ends, NONE, () -> t.turnOf(0, 0));
            }
        }
    }

    /** Two hands could take turns with one bell, but the best plan has hand 0 for all of it and leaves hand 1 free. */
    private static void bestPlanDecides() {
        WhiteclothTable t = table();
        t.endPage(20);
        for (int i = 0; i < 10; i++) {
            t.note(10 + 3 * i, 40, 3, 'r');
        }
        Check.same("turnOf(0, 0)", t.turnOf(0, 0), 14);
        t.note(12, 41, 3, 'r');
        Check.same("turnOf(0, 0), hand 1 busy to 14", t.turnOf(0, 0), 15);
        t.note(16, 41, 20, 'r');
        Check.fails(t, "turnOf(0, 0), hand 1 free in tick 15 alone", NONE, () -> t.turnOf(0, 0));
        t.drop(0);
        t.drop(1);
        // Without its notes at ticks 10 and 13, bell 40 leaves its hand free till 16.
        Check.same("turnOf(0, 0), the hand of bell 40 free", t.turnOf(0, 0), 14);
    }

    /** The rest keeps a hand from a note, not from a page. */
    private static void restIsFree() {
        WhiteclothTable t = table();
        t.setRest(8);
        t.endPage(20);
        t.note(0, 40, 60, 'r');
        t.note(0, 41, 17, 'r');
        t.note(25, 42, 20, 'r');
        Check.same("turnOf(0, 0)", t.turnOf(0, 0), 17);
    }

    private static void handsMayNotShare() {
        WhiteclothTable t = table();
        t.note(0, 40, 16, 'r');
        t.note(17, 40, 40, 'r');
        t.note(0, 41, 17, 'r');
        t.note(18, 41, 40, 'r');
        t.endPage(20);
        // Tick 16 is free in one hand, tick 17 in the other: neither has both.
        Check.fails(t, "turnOf(0, 0)", NONE, () -> t.turnOf(0, 0));
    }

    private static void withoutPlan() {
        WhiteclothTable t = table();
        t.endPage(100);
        t.note(0, 40, 5, 'r');
        t.note(0, 41, 5, 'r');
        t.note(0, 42, 5, 'r');
        Check.fails(t, "turnOf(0, 0)", NONE, () -> t.turnOf(0, 0));
        Check.fails(t, "turnOf(0, 1)", INDEX, () -> t.turnOf(0, 1));
        t.give(42, -1);
        Check.same("turnOf(0, 0)", t.turnOf(0, 0), 94);
    }
}
