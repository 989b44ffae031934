/** Promises 30 to 32: performing, strokes, serving. */
final class StrokesTest {
    private static final Class<UnsupportedOperationException> UNSUPPORTED = UnsupportedOperationException.class;
    private static final Class<IllegalArgumentException> ARGUMENT = IllegalArgumentException.class;

    public static void main(String[] args) {
        nothing();
        strokesByWay();
        owners();
        plans();
        wear();
        wornFromTwoHundredOn();
        wornAmongOthers();
        everyPitchServed();
        wornBellWithoutNotes();
        wornTillServed();
        refusedTillMended();
        Check.end("StrokesTest");
    }

    private static WhiteclothTable table() {
        WhiteclothTable t = new WhiteclothTable();
        t.addPlayer(9, 0);
        for (int pitch = 50; pitch < 60; pitch++) {
            t.setBell(pitch, true);
            t.give(pitch, 0);
        }
        return t;
    }

    private static void nothing() {
        WhiteclothTable t = new WhiteclothTable();
        Check.same("perform()", t.perform(), 0);
        Check.same("strokesOf(0)", t.strokesOf(0), 0);
        Check.same("strokesOf(59)", t.strokesOf(59), 0);
        Check.same("serve(0)", t.serve(0), 0);
        Check.same("serve(59)", t.serve(59), 0);
        Check.fails(t, "strokesOf(-1)", ARGUMENT, () -> t.strokesOf(-1));
        Check.fails(t, "strokesOf(60)", ARGUMENT, () -> t.strokesOf(60));
        Check.fails(t, "serve(-1)", ARGUMENT, () -> t.serve(-1));
        Check.fails(t, "serve(60)", ARGUMENT, () -> t.serve(60));
    }

    private static void strokesByWay() {
        WhiteclothTable t = table();
        String ways = "rsmde";
        for (int i = 0; i < 5; i++) {
            t.note(10 * i, 50 + i, 1, ways.charAt(i));
        }
        t.note(100, 50, 1, 's');
        Check.same("perform()", t.perform(), 10);
        int[] due = {4, 3, 1, 1, 1, 0};
        for (int i = 0; i < 6; i++) {
            Check.same("strokesOf " + (50 + i), t.strokesOf(50 + i), due[i]);
        }
        Check.same("perform()", t.perform(), 10);
        Check.same("strokesOf(50)", t.strokesOf(50), 8);
        Check.same("serve(50)", t.serve(50), 8);
        Check.same("strokesOf(50)", t.strokesOf(50), 0);
        Check.same("strokesOf(51)", t.strokesOf(51), 6);
    }

    private static void owners() {
        WhiteclothTable t = table();
        t.note(0, 50, 1, 'r');
        t.note(10, 51, 1, 'r');
        t.give(51, -1);
        Check.fails(t, "perform() of nobody's", UNSUPPORTED, () -> t.perform());
        t.drop(1);
        Check.same("perform()", t.perform(), 1);
    }

    private static void plans() {
        WhiteclothTable t = table();
        t.addPlayer(9, 0);
        for (int i = 0; i < 3; i++) {
            t.note(0, 50 + i, 5, 'r');
        }
        Check.fails(t, "perform() without a plan", UNSUPPORTED, () -> t.perform());
        t.give(51, 1);
        Check.same("perform()", t.perform(), 3);
    }

    private static void wear() {
        WhiteclothTable t = table();
        t.note(0, 50, 1, 's');
        for (int i = 1; i <= 66; i++) {
            t.perform();
        }
        Check.same("strokesOf(50)", t.strokesOf(50), 198);
        t.note(5, 50, 1, 'r');
        t.drop(0);
        Check.same("perform()", t.perform(), 1);
        Check.same("perform() at 199", t.perform(), 1);
        Check.same("strokesOf(50)", t.strokesOf(50), 200);
        Check.fails(t, "perform() at 200", UNSUPPORTED, () -> t.perform());
        Check.same("serve(50)", t.serve(50), 200);
        Check.same("perform()", t.perform(), 1);
        Check.same("strokesOf(50)", t.strokesOf(50), 1);
    }

    /** A bell of 199 strokes can still be rung, whatever it comes to; one of 200 cannot. */
    private static void wornFromTwoHundredOn() {
        for (int rung = 197; rung <= 200; rung++) {
            WhiteclothTable t = table();
            for (int i = 0; i < 60; i++) {
                t.note(3 * i, 50, 1, 's');
            }
            Check.same("perform()", t.perform(), 180);
            while (t.notes() > 0) {
                t.drop(0);
            }
            t.note(0, 50, 1, 'r');
            for (int strokes = 180; strokes < rung; strokes++) {
                Check.same("perform() at " + strokes, t.perform(), 1);
            }
            t.drop(0);
            t.note(5, 50, 1, 's');
            int then = rung < 200 ? rung + 3 : rung;
            if (rung < 200) {
                Check.same("perform() shaken at " + rung, t.perform(), 3);
            }
            Check.same("strokesOf(50)", t.strokesOf(50), then);
            Check.fails(t, "perform() at " + then, UNSUPPORTED, () -> t.perform());
            Check.same("strokesOf(50), refused", t.strokesOf(50), then);
        }
    }

    /** One worn bell among others hinders all, and none of them gets a stroke. */
    private static void wornAmongOthers() {
        WhiteclothTable t = table();
        for (int i = 0; i < 50; i++) {
            t.note(2 * i, 55, 1, i < 25 ? 's' : 'r');
        }
        Check.same("perform()", t.perform(), 100);
        t.note(200, 50, 1, 'r');
        t.note(210, 59, 1, 's');
        Check.same("perform() at 100", t.perform(), 104);
        Check.same("strokesOf(55)", t.strokesOf(55), 200);
        Check.fails(t, "perform()", UNSUPPORTED, () -> t.perform());
        Check.same("strokesOf(50)", t.strokesOf(50), 1);
        Check.same("strokesOf(59)", t.strokesOf(59), 3);
        Check.same("serve(50), not the worn one", t.serve(50), 1);
        Check.fails(t, "perform()", UNSUPPORTED, () -> t.perform());
        Check.same("serve(55)", t.serve(55), 200);
        Check.same("serve(55) again", t.serve(55), 0);
        Check.same("perform(), served", t.perform(), 104);
        Check.same("strokesOf(50)", t.strokesOf(50), 1);
        Check.same("strokesOf(55)", t.strokesOf(55), 100);
    }

    private static void everyPitchServed() {
        WhiteclothTable t = Tables.withAllBells();
        t.addPlayer(9, 0);
        for (int pitch = 0; pitch < 60; pitch++) {
            t.give(pitch, 0);
            t.note(6 * pitch, pitch, 1, pitch % 2 == 0 ? 's' : 'r');
        }
        Check.same("perform()", t.perform(), 120);
        for (int pitch = 0; pitch < 60; pitch++) {
            int due = pitch % 2 == 0 ? 3 : 1;
            Check.same("strokesOf " + pitch, t.strokesOf(pitch), due);
            Check.same("serve " + pitch, t.serve(pitch), due);
            Check.same("strokesOf, served, " + pitch, t.strokesOf(pitch), 0);
            Check.same("ownerOf, served, " + pitch, t.ownerOf(pitch), 0);
        }
    }

    /** What hinders is mended one by one: nobody's bell, no plan, a worn bell. */
    private static void refusedTillMended() {
        WhiteclothTable t = table();
        t.addPlayer(9, 0);
        for (int i = 0; i < 60; i++) {
            t.note(3 * i, 50, 1, 's');
        }
        t.perform();
        t.perform();
        for (int i = 0; i < 58; i++) {
            t.drop(0);
        }
        t.note(300, 51, 5, 'r');
        t.note(300, 52, 5, 'r');
        t.note(300, 53, 5, 'r');
        t.give(53, -1);
        Check.fails(t, "perform() worn and nobody's", UNSUPPORTED, () -> t.perform());
        t.give(53, 0);
        Check.fails(t, "perform() worn and without a plan", UNSUPPORTED, () -> t.perform());
        t.give(53, 1);
        Check.fails(t, "perform() worn", UNSUPPORTED, () -> t.perform());
        Check.same("serve(50)", t.serve(50), 360);
        Check.same("perform()", t.perform(), 9);
        t.give(53, 0);
        Check.fails(t, "perform() without a plan", UNSUPPORTED, () -> t.perform());
        t.give(53, -1);
        Check.fails(t, "perform() of nobody's", UNSUPPORTED, () -> t.perform());
        t.drop(4);
        Check.same("perform(), the note dropped", t.perform(), 8);
    }

    /** A worn bell that is put where it is, given or dealt is not served; one that is put there anew has no strokes. */
    private static void wornTillServed() {
        WhiteclothTable t = table();
        t.addPlayer(9, 0);
        for (int i = 0; i < 40; i++) {
            t.note(2 * i, 50, 1, 's');
        }
        t.perform();
        t.perform();
        Check.yes("setBell(50, true), put there again", t.setBell(50, true));
        Check.fails(t, "perform(), put there again", UNSUPPORTED, () -> t.perform());
        t.give(50, -1);
        t.give(50, 1);
        Check.fails(t, "perform(), given to another", UNSUPPORTED, () -> t.perform());
        t.deal();
        Check.fails(t, "perform(), dealt", UNSUPPORTED, () -> t.perform());
        t.give(51, 0);
        t.transpose(1);
        t.transpose(-1);
        Check.fails(t, "perform(), notes moved away and back", UNSUPPORTED, () -> t.perform());
        Check.same("strokesOf(50)", t.strokesOf(50), 240);
        t.transpose(1);
        t.setBell(50, false);
        t.setBell(50, true);
        t.transpose(-1);
        Check.fails(t, "perform(), put there anew and nobody's", UNSUPPORTED, () -> t.perform());
        t.give(50, 0);
        Check.same("perform(), put there anew", t.perform(), 120);
        Check.same("strokesOf(50), put there anew", t.strokesOf(50), 120);
    }

    private static void wornBellWithoutNotes() {
        WhiteclothTable t = table();
        for (int i = 0; i < 40; i++) {
            t.note(2 * i, 50, 1, 's');
        }
        t.perform();
        Check.same("perform() at 120", t.perform(), 120);
        Check.same("strokesOf(50)", t.strokesOf(50), 240);
        Check.fails(t, "perform() at 240", UNSUPPORTED, () -> t.perform());
        t.transpose(1);
        Check.same("perform() with the bell beside", t.perform(), 120);
        Check.same("strokesOf(50)", t.strokesOf(50), 240);
        t.setBell(50, false);
        Check.same("strokesOf(50), away", t.strokesOf(50), 0);
        Check.yes("isTrue()", t.isTrue());
    }
}
