import java.util.NoSuchElementException;

/** Promises 25 to 27: levels, the loudest tick, clashes. */
final class SoundsTest {
    private static final Class<NoSuchElementException> NONE = NoSuchElementException.class;
    private static final Class<IllegalArgumentException> ARGUMENT = IllegalArgumentException.class;

    public static void main(String[] args) {
        ranges();
        level('r', 100, 96, 92);
        level('s', 60, 60, 60);
        level('m', 80, 70, 60);
        level('d', 50, 0, 0);
        level('e', 90, 30, 78);
        longNotes();
        everyAge();
        everyLength();
        weights();
        outsideItsLength();
        levelsOfAllTogether();
        firstAndLastTickAsked();
        loudest();
        loudestBehindTheLastFirstTick();
        intervals();
        clashesOfEveryTwo();
        clashTicks();
        clashesNeedNoPlayers();
        silentNotesDoNotClash();
        clashesEndWithTheLevel();
        lastTicks();
        Check.end("SoundsTest");
    }

    private static WhiteclothTable table() {
        WhiteclothTable t = new WhiteclothTable();
        for (int pitch = 0; pitch < 60; pitch++) {
            t.setBell(pitch, true);
        }
        return t;
    }

    private static void ranges() {
        WhiteclothTable t = table();
        Check.same("levelAt(0)", t.levelAt(0), 0);
        Check.same("levelAt(500)", t.levelAt(500), 0);
        Check.fails(t, "levelAt(-1)", ARGUMENT, () -> t.levelAt(-1));
        Check.fails(t, "levelAt(501)", ARGUMENT, () -> t.levelAt(501));
        Check.fails(t, "loudest()", NONE, () -> t.loudest());
        Check.same("clashes()", t.clashes(), 0);
    }

    /** A bell of weight 1 makes 11 tenths of the level. */
    private static void level(char way, int... strikes) {
        WhiteclothTable t = table();
        t.note(7, 59, 3, way);
        for (int age = 0; age < 3; age++) {
            Check.same("levelAt, " + way + " at " + age, t.levelAt(7 + age), strikes[age] * 11 / 10);
        }
    }

    /** Each way at each age, by a list that is written out, on a bell of weight 1 and on one of weight 9. */
    private static void everyAge() {
        int[][] starts = {
            {100, 96, 92, 88, 84, 80, 76, 72, 68, 64, 60, 56, 52, 48, 44, 40, 36, 32, 28, 24, 20, 16, 12, 8, 4},
            {},
            {80, 70, 60, 50, 40, 30, 20, 10},
            {50},
            {90, 30, 78, 30, 66, 30, 54, 30, 42, 30, 30, 30, 18, 30, 6, 30}};
        for (int way = 0; way < 5; way++) {
            WhiteclothTable light = table();
            WhiteclothTable heavy = table();
            light.note(400, 59, 64, "rsmde".charAt(way));
            heavy.note(0, 3, 64, "rsmde".charAt(way));
            for (int age = 0; age < 64; age++) {
                int strike = age < starts[way].length ? starts[way][age] : way == 1 ? 60 : way == 4 ? age % 2 * 30 : 0;
                String call = "levelAt, " + "rsmde".charAt(way) + " at the age of " + age;
                Check.same(call, light.levelAt(400 + age), strike + strike / 10);
                Check.same(call + ", of weight 9", heavy.levelAt(age), strike + strike * 9 / 10);
            }
            Check.same("levelAt behind it", light.levelAt(464), 0);
            Check.same("levelAt ahead of it", light.levelAt(399), 0);
            Check.same("levelAt behind it", heavy.levelAt(64), 0);
        }
    }

    private static void everyLength() {
        for (int length = 1; length <= 64; length++) {
            WhiteclothTable t = table();
            t.note(100, 59, length, 's');
            Check.same("levelAt ahead of it", t.levelAt(99), 0);
            Check.same("levelAt its first tick", t.levelAt(100), 66);
            Check.same("levelAt its last tick", t.levelAt(99 + length), 66);
            Check.same("levelAt the tick behind it", t.levelAt(100 + length), 0);
        }
    }

    private static void levelsOfAllTogether() {
        WhiteclothTable t = table();
        int sum = 0;
        for (int pitch = 0; pitch < 60; pitch++) {
            t.note(20, pitch, 2, 'r');
            // Each note's level is cut by itself, not the sum of all.
            sum += 96 * (10 + 1 + (59 - pitch) / 7) / 10;
            Check.same("levelAt(21) of " + (pitch + 1), t.levelAt(21), sum);
        }
        Check.same("levelAt(22)", t.levelAt(22), 0);
    }

    private static void firstAndLastTickAsked() {
        WhiteclothTable t = table();
        t.note(0, 59, 1, 'r');
        t.note(400, 59, 64, 's');
        Check.same("levelAt(0)", t.levelAt(0), 110);
        Check.same("levelAt(1)", t.levelAt(1), 0);
        Check.same("levelAt(463)", t.levelAt(463), 66);
        for (int tick = 464; tick <= 500; tick++) {
            Check.same("levelAt " + tick, t.levelAt(tick), 0);
        }
        Check.fails(t, "levelAt(501)", ARGUMENT, () -> t.levelAt(501));
        Check.fails(t, "levelAt(-1)", ARGUMENT, () -> t.levelAt(-1));
    }

    /** Two and thirty echoes, two ticks apart: all of them are together first in tick 401, at 30 each. */
    private static void loudestBehindTheLastFirstTick() {
        WhiteclothTable t = table();
        for (int i = 0; i < 32; i++) {
            t.note(338 + 2 * i, 28 + i, 64, 'e');
        }
        Check.same("loudest()", t.loudest(), 401);
        WhiteclothTable u = table();
        u.note(400, 59, 1, 'd');
        Check.same("loudest() of the last first tick alone", u.loudest(), 400);
        WhiteclothTable v = table();
        v.note(390, 59, 64, 's');
        v.note(400, 58, 64, 'd');
        Check.same("loudest() of the last first tick", v.loudest(), 400);
    }

    private static void longNotes() {
        WhiteclothTable t = table();
        t.note(0, 59, 64, 'r');
        Check.same("r at 24", t.levelAt(24), 4);
        Check.same("r at 25", t.levelAt(25), 0);
        Check.same("r at 63", t.levelAt(63), 0);
        t.drop(0);
        t.note(0, 59, 64, 'm');
        Check.same("m at 7", t.levelAt(7), 11);
        Check.same("m at 8", t.levelAt(8), 0);
        Check.same("m at 40", t.levelAt(40), 0);
        t.drop(0);
        t.note(0, 59, 64, 'e');
        Check.same("e at 14", t.levelAt(14), 6);
        Check.same("e at 16", t.levelAt(16), 0);
        Check.same("e at 62", t.levelAt(62), 0);
        Check.same("e at 63", t.levelAt(63), 33);
        t.drop(0);
        t.note(0, 59, 64, 's');
        Check.same("s at 63", t.levelAt(63), 66);
        Check.same("s at 64", t.levelAt(64), 0);
    }

    private static void weights() {
        for (int pitch = 0; pitch < 60; pitch++) {
            WhiteclothTable t = table();
            t.note(0, pitch, 2, 'r');
            Check.same("levelAt(1) of " + pitch, t.levelAt(1), 96 * (11 + (59 - pitch) / 7) / 10);
        }
    }

    private static void outsideItsLength() {
        WhiteclothTable t = table();
        t.note(10, 59, 2, 'r');
        t.note(12, 58, 1, 's');
        Check.same("levelAt(9)", t.levelAt(9), 0);
        Check.same("levelAt(10)", t.levelAt(10), 110);
        Check.same("levelAt(11)", t.levelAt(11), 105);
        Check.same("levelAt(12)", t.levelAt(12), 66);
        Check.same("levelAt(13)", t.levelAt(13), 0);
        t.note(11, 57, 5, 'd');
        Check.same("levelAt(11)", t.levelAt(11), 160);
    }

    private static void loudest() {
        WhiteclothTable t = table();
        t.note(10, 59, 5, 's');
        Check.same("loudest(), of like ones", t.loudest(), 10);
        t.note(13, 50, 1, 'd');
        Check.same("loudest()", t.loudest(), 13);
        t.note(400, 0, 1, 'r');
        Check.same("loudest()", t.loudest(), 400);
        t.note(0, 0, 1, 'r');
        Check.same("loudest(), of like ones", t.loudest(), 0);
    }

    private static void intervals() {
        for (int apart = 1; apart < 60; apart++) {
            WhiteclothTable t = table();
            t.note(5, 0, 1, 'r');
            t.note(5, apart, 1, 'r');
            int rest = apart % 12;
            Check.same("clashes() " + apart + " apart", t.clashes(), rest == 1 || rest == 6 || rest == 11 ? 1 : 0);
        }
        for (int low = 0; low < 54; low++) {
            WhiteclothTable t = table();
            t.note(5, low, 1, 'r');
            t.note(5, low + 6, 1, 'r');
            Check.same("clashes() from " + low, t.clashes(), 1);
            t.transpose(-low);
            t.drop(1);
            t.note(5, 7, 1, 'r');
            Check.same("clashes(), a fifth", t.clashes(), 0);
        }
    }

    private static void clashesOfEveryTwo() {
        for (int low = 0; low < 59; low++) {
            WhiteclothTable t = table();
            t.note(5, low, 3, 's');
            for (int high = low + 1; high < 60; high++) {
                t.note(7, high, 3, 's');
                int apart = (high - low) % 12;
                Check.same("clashes() of " + low + " and " + high, t.clashes(),
                        apart == 1 || apart == 6 || apart == 11 ? 1 : 0);
                t.drop(1);
            }
        }
    }

    private static void clashesNeedNoPlayers() {
        WhiteclothTable t = table();
        t.note(0, 10, 1, 's');
        Check.same("clashes() of one note", t.clashes(), 0);
        t.note(1, 11, 1, 's');
        Check.same("clashes() of notes in turn", t.clashes(), 0);
        t.note(1, 10, 1, 's');
        Check.same("clashes() of notes at once", t.clashes(), 1);
        t.addPlayer(9, 0);
        t.give(10, 0);
        t.give(11, 0);
        Check.same("clashes() of one player's notes", t.clashes(), 1);
    }

    /** Beside a shaken note, which sounds all the time, the clashes end as the other one is at 0. */
    private static void clashesEndWithTheLevel() {
        // 100 less 4 times 25; 60; 80 less 10 times 8; the first tick; even ages below 15, and all odd ones.
        int[] due = {25, 64, 8, 1, 8 + 32};
        for (int i = 0; i < 5; i++) {
            for (int apart = 1; apart <= 11; apart += 5) {
                WhiteclothTable t = table();
                t.note(50, 20, 64, 's');
                t.note(50, 20 + apart, 64, "rsmde".charAt(i));
                Check.same("clashes() beside " + "rsmde".charAt(i) + ", " + apart + " apart", t.clashes(), due[i]);
            }
        }
    }

    private static void clashTicks() {
        WhiteclothTable t = table();
        t.note(0, 30, 10, 's');
        t.note(8, 31, 10, 's');
        Check.same("clashes()", t.clashes(), 2);
        t.note(9, 36, 10, 's');
        // Tick 9 has three such twos and counts once; 36 and 31 do not clash.
        Check.same("clashes()", t.clashes(), 2);
        t.note(17, 37, 1, 's');
        Check.same("clashes()", t.clashes(), 3);
    }

    private static void silentNotesDoNotClash() {
        WhiteclothTable t = table();
        t.note(0, 30, 10, 's');
        t.note(2, 31, 5, 'd');
        Check.same("clashes()", t.clashes(), 1);
        t.drop(1);
        t.note(0, 31, 10, 'm');
        Check.same("clashes()", t.clashes(), 8);
        t.drop(1);
        t.note(0, 31, 64, 'r');
        Check.same("clashes()", t.clashes(), 10);
    }

    private static void lastTicks() {
        WhiteclothTable t = table();
        t.note(400, 30, 64, 's');
        t.note(400, 31, 64, 's');
        Check.same("clashes()", t.clashes(), 64);
        t.note(0, 0, 1, 'd');
        Check.same("levelAt(463)", t.levelAt(463), 2 * (60 * 15 / 10));
        Check.same("levelAt(464)", t.levelAt(464), 0);
        t.drop(1);
        t.note(340, 0, 1, 'd');
        Check.same("loudest()", t.loudest(), 0);
    }
}
