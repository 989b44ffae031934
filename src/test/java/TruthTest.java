import java.lang.reflect.Array;
import java.lang.reflect.Field;
import java.lang.reflect.Method;
import java.util.List;

/**
 * Promise 39: isTrue() looks at what it answers for. No call makes it false, so what it must find is put into the
 * object from behind, by the names of its private fields: they may change, and this test with them.
 */
final class TruthTest {
    public static void main(String[] args) throws ReflectiveOperationException {
        twoNotesOfOneBell();
        tooHeavyBell();
        placesTwiceOrBeyond();
        handsInOneTick();
        Check.end("TruthTest");
    }

    private static Object get(Object from, String field) throws ReflectiveOperationException {
        return open(from, field).get(from);
    }

    private static void set(Object in, String field, int value) throws ReflectiveOperationException {
        open(in, field).setInt(in, value);
    }

    private static Field open(Object of, String field) throws ReflectiveOperationException {
        Field found = of.getClass().getDeclaredField(field);
        found.setAccessible(true);
        return found;
    }

    private static Object member(WhiteclothTable t, String list, int index) throws ReflectiveOperationException {
        Object held = get(t, list);
        return held instanceof List<?> row ? row.get(index) : Array.get(held, index);
    }

    /** Each two of three notes that share a tick, one after the other, told to be of one bell. */
    private static void twoNotesOfOneBell() throws ReflectiveOperationException {
        for (int first = 0; first < 3; first++) {
            for (int second = 0; second < 3; second++) {
                WhiteclothTable t = Tables.withBells(10, 20, 30);
                t.note(0, 10, 5, 'r');
                t.note(4, 20, 5, 'r');
                t.note(2, 30, 3, 'r');
                Check.yes("isTrue()", t.isTrue());
                set(member(t, "score", first), "pitch", t.pitchOf(second));
                Check.same("isTrue(), " + first + " of the bell of " + second, t.isTrue() ? 1 : 0,
                        first == second ? 1 : 0);
            }
        }
        WhiteclothTable t = Tables.withBells(10, 20);
        t.note(0, 10, 5, 'r');
        t.note(5, 20, 5, 'r');
        set(member(t, "score", 1), "pitch", 10);
        Check.yes("isTrue(), the one as the other has ended", t.isTrue());
    }

    private static void tooHeavyBell() throws ReflectiveOperationException {
        for (int player = 0; player < 9; player++) {
            for (int weight = 1; weight <= 9; weight++) {
                WhiteclothTable t = new WhiteclothTable();
                for (int strength = 1; strength <= 9; strength++) {
                    t.addPlayer(strength, 0);
                }
                int pitch = Traces.HEAVIEST[9 - weight];
                t.setBell(pitch, true);
                set(member(t, "bells", pitch), "owner", player);
                Check.same("isTrue(), a weight of " + weight + " at a strength of " + (player + 1),
                        t.isTrue() ? 1 : 0, player + 1 >= weight ? 1 : 0);
            }
        }
    }

    private static void placesTwiceOrBeyond() throws ReflectiveOperationException {
        for (int player = 0; player < 3; player++) {
            for (int place = -1; place <= 3; place++) {
                WhiteclothTable t = new WhiteclothTable();
                for (int i = 0; i < 3; i++) {
                    t.addPlayer(5, 0);
                }
                set(member(t, "players", player), "place", place);
                Check.same("isTrue(), player " + player + " at place " + place, t.isTrue() ? 1 : 0,
                        player == place ? 1 : 0);
            }
        }
    }

    /** The best plan is found anew at each call: its check is asked by itself, with hands that are put there. */
    private static void handsInOneTick() throws ReflectiveOperationException {
        WhiteclothTable t = Tables.withBells(10, 20, 30);
        t.addPlayer(9, 0);
        t.give(10, 0);
        t.give(20, 0);
        t.give(30, 0);
        t.note(0, 10, 5, 'r');
        t.note(4, 20, 5, 'r');
        t.note(7, 30, 5, 'r');
        t.note(12, 30, 5, 'r');
        Check.yes("hasPlan(0)", t.hasPlan(0));
        // The first two notes share tick 4, the next two tick 8; the third one is 2 ticks behind the first one.
        for (int code = 0; code < 16; code++) {
            int[] hands = {code & 1, code >> 1 & 1, code >> 2 & 1, code >> 3};
            boolean holds = hands[0] != hands[1] && hands[1] != hands[2];
            Check.same("hands " + code, handsHold(t, hands) ? 1 : 0, holds ? 1 : 0);
        }
        t.setRest(3);
        t.note(14, 20, 5, 'r');
        Check.no("hasPlan(0) at rest 3", t.hasPlan(0));
        Check.no("hands, the third one 2 ticks behind at rest 3", handsHold(t, new int[] {0, 1, 0, 0, 1}));
    }

    private static boolean handsHold(WhiteclothTable t, int[] hands) throws ReflectiveOperationException {
        t.hasPlan(0);
        Object planner = get(t, "planner");
        System.arraycopy(hands, 0, (int[]) get(planner, "hands"), 0, hands.length);
        Method asked = planner.getClass().getDeclaredMethod("handsHold");
        asked.setAccessible(true);
        return (boolean) asked.invoke(planner);
    }
}
