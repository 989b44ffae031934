/** Promises 9 to 14: players, places, giving bells, the rest. */
final class PlayersTest {
    private static final Class<IllegalArgumentException> ARGUMENT = IllegalArgumentException.class;
    private static final Class<UnsupportedOperationException> UNSUPPORTED = UnsupportedOperationException.class;
    private static final Class<IllegalStateException> STATE = IllegalStateException.class;
    private static final Class<IndexOutOfBoundsException> INDEX = IndexOutOfBoundsException.class;

    public static void main(String[] args) {
        adding();
        everyStrengthAndLeaning();
        swapping();
        swappingEveryTwo();
        addingBehindASwap();
        givingByWeight();
        giving();
        givingKeepsTheRest();
        rests();
        everyRest();
        Check.end("PlayersTest");
    }

    private static void adding() {
        WhiteclothTable t = new WhiteclothTable();
        Check.fails(t, "strength 0", ARGUMENT, () -> t.addPlayer(0, 0));
        Check.fails(t, "strength 10", ARGUMENT, () -> t.addPlayer(10, 0));
        Check.fails(t, "leaning -4", ARGUMENT, () -> t.addPlayer(1, -4));
        Check.fails(t, "leaning 4", ARGUMENT, () -> t.addPlayer(1, 4));
        for (int i = 0; i < 12; i++) {
            Check.same("addPlayer", t.addPlayer(i % 2 == 0 ? 1 : 9, i % 2 == 0 ? -3 : 3), i);
            Check.same("placeOf", t.placeOf(i), i);
        }
        Check.fails(t, "the 13th", STATE, () -> t.addPlayer(1, 0));
        Check.fails(t, "the 13th, strength 0", ARGUMENT, () -> t.addPlayer(0, 0));
    }

    /** The strength shows in the heaviest bell that can be given, the leaning in a note alone. */
    private static void everyStrengthAndLeaning() {
        for (int strength = 1; strength <= 9; strength++) {
            for (int leaning = -3; leaning <= 3; leaning++) {
                WhiteclothTable t = Tables.withBells(Traces.HEAVIEST);
                String who = "player of " + strength + ", " + leaning;
                Check.same(who, t.addPlayer(strength, leaning), 0);
                for (int weight = 1; weight <= 9; weight++) {
                    int pitch = Traces.HEAVIEST[9 - weight];
                    if (weight > strength) {
                        Check.fails(t, "give " + pitch + " to the " + who, UNSUPPORTED, () -> t.give(pitch, 0));
                    } else {
                        Check.same("give " + pitch + " to the " + who, t.give(pitch, 0), -1);
                    }
                }
                t.note(0, 53, 1, 'r');
                Check.same("lateOf, " + who, t.lateOf(0), leaning);
            }
        }
    }

    private static void swappingEveryTwo() {
        for (int one = 0; one < 12; one++) {
            WhiteclothTable t = new WhiteclothTable();
            for (int i = 0; i < 12; i++) {
                t.addPlayer(1, 0);
            }
            for (int two = 0; two < 12; two++) {
                String call = "swap(" + one + ", " + two + ")";
                Check.same(call, t.swap(one, two), two);
                Check.same("placeOf the first, " + call, t.placeOf(one), two);
                Check.same("placeOf the second, " + call, t.placeOf(two), one == two ? two : one);
                int beside = (Math.max(one, two) + 1) % 12;
                if (beside != one && beside != two) {
                    Check.same("placeOf another, " + call, t.placeOf(beside), beside);
                }
                Check.yes("isTrue(), " + call, t.isTrue());
                Check.same("back, " + call, t.swap(one, two), one);
            }
            for (int i = 0; i < 12; i++) {
                Check.same("placeOf " + i, t.placeOf(i), i);
            }
        }
    }

    private static void addingBehindASwap() {
        WhiteclothTable t = new WhiteclothTable();
        Check.same("addPlayer", t.addPlayer(1, 0), 0);
        Check.same("swap(0, 0) of one", t.swap(0, 0), 0);
        for (int i = 1; i < 12; i++) {
            Check.same("addPlayer", t.addPlayer(1, 0), i);
            Check.same("placeOf the new one", t.placeOf(i), i);
            Check.same("swap with the first one", t.swap(i, 0), i - 1);
            Check.same("placeOf(0), always last", t.placeOf(0), i);
        }
        for (int i = 1; i < 12; i++) {
            Check.same("placeOf " + i, t.placeOf(i), i - 1);
        }
    }

    private static void givingKeepsTheRest() {
        WhiteclothTable t = Tables.withBells(20, 21);
        t.addPlayer(9, 0);
        t.addPlayer(9, 0);
        t.give(20, 0);
        t.note(3, 20, 2, 's');
        t.perform();
        Check.same("give(20, 1)", t.give(20, 1), 0);
        Check.same("strokesOf(20)", t.strokesOf(20), 3);
        Check.same("notes()", t.notes(), 1);
        Check.same("loadOf(0)", t.loadOf(0), 0);
        Check.same("loadOf(1)", t.loadOf(1), 6);
        Check.same("give(20, -1)", t.give(20, -1), 1);
        Check.same("strokesOf(20)", t.strokesOf(20), 3);
        Check.same("loadOf(1)", t.loadOf(1), 0);
        Check.same("ownerOf(21)", t.ownerOf(21), -1);
    }

    private static void everyRest() {
        WhiteclothTable t = new WhiteclothTable();
        int before = 2;
        for (int ticks = 0; ticks <= 8; ticks++) {
            Check.same("setRest " + ticks, t.setRest(ticks), before);
            Check.same("setRest again " + ticks, t.setRest(ticks), ticks);
            Check.same("checksum() at rest " + ticks, t.checksum(), 7 * 31 + ticks);
            before = ticks;
        }
    }

    private static void swapping() {
        WhiteclothTable t = new WhiteclothTable();
        Check.fails(t, "swap(0, 0) of none", INDEX, () -> t.swap(0, 0));
        for (int i = 0; i < 4; i++) {
            t.addPlayer(5, 0);
        }
        Check.same("swap(0, 3)", t.swap(0, 3), 3);
        Check.same("swap(0, 1)", t.swap(0, 1), 1);
        int[] places = {1, 3, 2, 0};
        for (int i = 0; i < 4; i++) {
            Check.same("placeOf " + i, t.placeOf(i), places[i]);
        }
        Check.same("swap(2, 2)", t.swap(2, 2), 2);
        Check.same("placeOf(2)", t.placeOf(2), 2);
        Check.same("addPlayer", t.addPlayer(5, 0), 4);
        Check.same("placeOf(4)", t.placeOf(4), 4);
        Check.fails(t, "swap(5, 0)", INDEX, () -> t.swap(5, 0));
        Check.fails(t, "swap(0, 5)", INDEX, () -> t.swap(0, 5));
        Check.fails(t, "swap(-1, 0)", INDEX, () -> t.swap(-1, 0));
        Check.fails(t, "swap(0, -1)", INDEX, () -> t.swap(0, -1));
        Check.fails(t, "placeOf(-1)", INDEX, () -> t.placeOf(-1));
        Check.fails(t, "placeOf(5)", INDEX, () -> t.placeOf(5));
    }

    private static void givingByWeight() {
        WhiteclothTable t = new WhiteclothTable();
        for (int strength = 1; strength <= 9; strength++) {
            t.addPlayer(strength, 0);
        }
        // The lowest pitch that a player of each strength lifts: 59 less 7 times the strength, and 1.
        for (int strength = 1; strength <= 8; strength++) {
            int lowest = 60 - 7 * strength;
            int player = strength - 1;
            t.setBell(lowest, true);
            t.setBell(lowest - 1, true);
            Check.same("give " + lowest, t.give(lowest, player), -1);
            Check.fails(t, "give " + (lowest - 1), UNSUPPORTED, () -> t.give(lowest - 1, player));
        }
        t.setBell(0, true);
        Check.same("give 0", t.give(0, 8), -1);
        Check.fails(t, "give 0 to 7", UNSUPPORTED, () -> t.give(0, 7));
    }

    private static void giving() {
        WhiteclothTable t = new WhiteclothTable();
        t.addPlayer(9, 0);
        t.addPlayer(9, 0);
        t.setBell(20, true);
        Check.same("ownerOf(20)", t.ownerOf(20), -1);
        Check.same("give(20, 1)", t.give(20, 1), -1);
        Check.same("ownerOf(20)", t.ownerOf(20), 1);
        Check.same("give(20, 0)", t.give(20, 0), 1);
        Check.same("give(20, 0)", t.give(20, 0), 0);
        Check.same("give(20, -1)", t.give(20, -1), 0);
        Check.same("ownerOf(20)", t.ownerOf(20), -1);
        Check.same("give(20, -1)", t.give(20, -1), -1);
        Check.fails(t, "give(20, 2)", INDEX, () -> t.give(20, 2));
        Check.fails(t, "give(20, -2)", INDEX, () -> t.give(20, -2));
        Check.fails(t, "give(60, 2)", INDEX, () -> t.give(60, 2));
        Check.fails(t, "give(60, 1)", ARGUMENT, () -> t.give(60, 1));
        Check.fails(t, "give(-1, -1)", ARGUMENT, () -> t.give(-1, -1));
        Check.fails(t, "give(21, 1)", UNSUPPORTED, () -> t.give(21, 1));
        Check.fails(t, "give(21, -1)", UNSUPPORTED, () -> t.give(21, -1));
        Check.fails(t, "ownerOf(-1)", ARGUMENT, () -> t.ownerOf(-1));
        Check.fails(t, "ownerOf(60)", ARGUMENT, () -> t.ownerOf(60));
    }

    private static void rests() {
        WhiteclothTable t = new WhiteclothTable();
        Check.same("setRest(8)", t.setRest(8), 2);
        Check.same("setRest(0)", t.setRest(0), 8);
        Check.fails(t, "setRest(-1)", ARGUMENT, () -> t.setRest(-1));
        Check.fails(t, "setRest(9)", ARGUMENT, () -> t.setRest(9));
        Check.same("setRest(5)", t.setRest(5), 0);
    }
}
