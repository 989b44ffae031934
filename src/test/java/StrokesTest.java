/** Promises 30 to 32: performing, strokes, serving. */
final class StrokesTest {
    private static final Class<UnsupportedOperationException> UNSUPPORTED = UnsupportedOperationException.class;
    private static final Class<IllegalArgumentException> ARGUMENT = IllegalArgumentException.class;

    public static void main(String[] args) {
        nothing();
        strokesByWay();
        owners();
        plans();
        wear();
        wornBellWithoutNotes();
        Check.end("StrokesTest");
    }

    private static WhiteclothTable table() {
        WhiteclothTable t = new WhiteclothTable();
        t.addPlayer(9, 0);
        for (int pitch = 50; pitch < 60; pitch++) {
            t.setBell(pitch, true);
            t.give(pitch, 0);
        }
        return t;
    }

    private static void nothing() {
        WhiteclothTable t = new WhiteclothTable();
        Check.same("perform()", t.perform(), 0);
        Check.same("strokesOf(0)", t.strokesOf(0), 0);
        Check.same("strokesOf(59)", t.strokesOf(59), 0);
        Check.same("serve(0)", t.serve(0), 0);
        Check.same("serve(59)", t.serve(59), 0);
        Check.fails(t, "strokesOf(-1)", ARGUMENT, () -> t.strokesOf(-1));
        Check.fails(t, "strokesOf(60)", ARGUMENT, () -> t.strokesOf(60));
        Check.fails(t, "serve(-1)", ARGUMENT, () -> t.serve(-1));
        Check.fails(t, "serve(60)", ARGUMENT, () -> t.serve(60));
    }

    private static void strokesByWay() {
        WhiteclothTable t = table();
        String ways = "rsmde";
        for (int i = 0; i < 5; i++) {
            t.note(10 * i, 50 + i, 1, ways.charAt(i));
        }
        t.note(100, 50, 1, 's');
        Check.same("perform()", t.perform(), 10);
        int[] due = {4, 3, 1, 1, 1, 0};
        for (int i = 0; i < 6; i++) {
            Check.same("strokesOf " + (50 + i), t.strokesOf(50 + i), due[i]);
        }
        Check.same("perform()", t.perform(), 10);
        Check.same("strokesOf(50)", t.strokesOf(50), 8);
        Check.same("serve(50)", t.serve(50), 8);
        Check.same("strokesOf(50)", t.strokesOf(50), 0);
        Check.same("strokesOf(51)", t.strokesOf(51), 6);
    }

    private static void owners() {
        WhiteclothTable t = table();
        t.note(0, 50, 1, 'r');
        t.note(10, 51, 1, 'r');
        t.give(51, -1);
        Check.fails(t, "perform() of nobody's", UNSUPPORTED, () -> t.perform());
        t.drop(1);
        Check.same("perform()", t.perform(), 1);
    }

    private static void plans() {
        WhiteclothTable t = table();
        t.addPlayer(9, 0);
        for (int i = 0; i < 3; i++) {
            t.note(0, 50 + i, 5, 'r');
        }
        Check.fails(t, "perform() without a plan", UNSUPPORTED, () -> t.perform());
        t.give(51, 1);
        Check.same("perform()", t.perform(), 3);
    }

    private static void wear() {
        WhiteclothTable t = table();
        t.note(0, 50, 1, 's');
        for (int i = 1; i <= 66; i++) {
            t.perform();
        }
        Check.same("strokesOf(50)", t.strokesOf(50), 198);
        t.note(5, 50, 1, 'r');
        t.drop(0);
        Check.same("perform()", t.perform(), 1);
        Check.same("perform() at 199", t.perform(), 1);
        Check.same("strokesOf(50)", t.strokesOf(50), 200);
        Check.fails(t, "perform() at 200", UNSUPPORTED, () -> t.perform());
        Check.same("serve(50)", t.serve(50), 200);
        Check.same("perform()", t.perform(), 1);
        Check.same("strokesOf(50)", t.strokesOf(50), 1);
    }

    private static void wornBellWithoutNotes() {
        WhiteclothTable t = table();
        for (int i = 0; i < 40; i++) {
            t.note(2 * i, 50, 1, 's');
        }
        t.perform();
        Check.same("perform() at 120", t.perform(), 120);
        Check.same("strokesOf(50)", t.strokesOf(50), 240);
        Check.fails(t, "perform() at 240", UNSUPPORTED, () -> t.perform());
        t.transpose(1);
        Check.same("perform() with the bell beside", t.perform(), 120);
        Check.same("strokesOf(50)", t.strokesOf(50), 240);
        t.setBell(50, false);
        Check.same("strokesOf(50), away", t.strokesOf(50), 0);
        Check.yes("isTrue()", t.isTrue());
    }
}
