import java.util.ArrayList;
import java.util.HashMap;
import java.util.List;
import java.util.Map;
import java.util.function.Supplier;

/**
 * Calls that must be refused, on one of two tables made alike: behind the call both must give the same answers to
 * all that can be asked. The questions are asked in parts, each on tables of its own, as a table is good for 512 calls.
 */
final class Traces {
    /** Makes the same table at each call. */
    interface Recipe {
        WhiteclothTable make();
    }

    interface Call {
        void on(WhiteclothTable table);
    }

    private interface Part {
        void ask(WhiteclothTable t, Answers answers);
    }

    private static final class Answers {
        final List<String> told = new ArrayList<>();

        void of(String call, Supplier<Object> asked) {
            told.add(call + " answered " + outcome(asked));
        }
    }

    private static final List<Part> PARTS = List.of(Traces::bells, Traces::notes, Traces::slips, Traces::places,
            Traces::strengths, Traces::leanings, Traces::pages, Traces::rows, Traces::deals, Traces::strokes,
            (t, answers) -> sounds(t, answers, 0), (t, answers) -> sounds(t, answers, 126),
            (t, answers) -> sounds(t, answers, 252), (t, answers) -> sounds(t, answers, 378));
    private static final Map<Recipe, List<List<String>>> UNTOUCHED = new HashMap<>();
    /** The lowest pitches of bells that weigh 9, 8 .. 1. */
    static final int[] HEAVIEST = {0, 4, 11, 18, 25, 32, 39, 46, 53};

    private Traces() {
    }

    /** The call must throw exactly this, and the table must be as if it had not been. */
    static void refused(String name, Recipe recipe, Class<? extends RuntimeException> due, Call call) {
        List<List<String>> untouched = UNTOUCHED.computeIfAbsent(recipe, Traces::untouched);
        for (int i = 0; i < PARTS.size(); i++) {
            WhiteclothTable t = recipe.make();
            String got = outcome(() -> {
                call.on(t);
                return "nothing";
            });
            Check.same(name, got, "throws." + due.getSimpleName());
            Answers answers = new Answers();
            PARTS.get(i).ask(t, answers);
            sameAnswers(name, answers.told, untouched.get(i));
        }
    }

    static String outcome(Supplier<Object> call) {
        try {
            return String.valueOf(call.get());
        } catch (RuntimeException e) {
            return Check.thrown(e);
        }
    }

    private static List<List<String>> untouched(Recipe recipe) {
        List<List<String>> all = new ArrayList<>();
        for (Part part : PARTS) {
            Answers answers = new Answers();
            part.ask(recipe.make(), answers);
            all.add(answers.told);
        }
        return all;
    }

    private static void sameAnswers(String name, List<String> got, List<String> due) {
        for (int i = 0; i < Math.min(got.size(), due.size()); i++) {
            Check.same("behind the refused " + name, got.get(i), due.get(i));
        }
        Check.same("answers behind the refused " + name, got.size(), due.size());
    }

    private static void bells(WhiteclothTable t, Answers answers) {
        for (int i = 0; i < 60; i++) {
            int pitch = i;
            answers.of("ownerOf " + pitch, () -> t.ownerOf(pitch));
            answers.of("strokesOf " + pitch, () -> t.strokesOf(pitch));
        }
        for (int i = 0; i < 60; i++) {
            int pitch = i;
            answers.of("setBell " + pitch, () -> t.setBell(pitch, true));
        }
        answers.of("isTrue", () -> t.isTrue());
    }

    private static void notes(WhiteclothTable t, Answers answers) {
        answers.of("checksum", () -> t.checksum());
        answers.of("notes", () -> t.notes());
        for (int i = 0; i <= t.notes(); i++) {
            int note = i;
            answers.of("tickOf " + note, () -> t.tickOf(note));
            answers.of("pitchOf " + note, () -> t.pitchOf(note));
            answers.of("handOf " + note, () -> t.handOf(note));
        }
        answers.of("setRest", () -> t.setRest(0));
    }

    private static void slips(WhiteclothTable t, Answers answers) {
        answers.of("mostLate", () -> t.mostLate());
        int count = t.notes();
        for (int i = 0; i < count; i++) {
            int note = i;
            answers.of("lateOf " + note, () -> t.lateOf(note));
            answers.of("carries " + note, () -> t.carries(note));
        }
        for (int i = 0; i < count; i++) {
            int note = i;
            answers.of("slip " + note, () -> t.slip(note, 0));
        }
        answers.of("checksum", () -> t.checksum());
    }

    private static void places(WhiteclothTable t, Answers answers) {
        for (int i = 0; i < 13; i++) {
            int player = i;
            answers.of("placeOf " + player, () -> t.placeOf(player));
            answers.of("loadOf " + player, () -> t.loadOf(player));
            answers.of("hasPlan " + player, () -> t.hasPlan(player));
            answers.of("changes " + player, () -> t.changes(player));
        }
        answers.of("ownedShare", () -> t.ownedShare());
        answers.of("meanLoad", () -> t.meanLoad());
        answers.of("transpose", () -> t.transpose(1));
        answers.of("checksum", () -> t.checksum());
    }

    private static void strengths(WhiteclothTable t, Answers answers) {
        for (int pitch : HEAVIEST) {
            answers.of("setBell " + pitch, () -> t.setBell(pitch, true));
            for (int i = 0; i < 12; i++) {
                int player = i;
                answers.of("give " + pitch + " " + player, () -> t.give(pitch, player));
            }
        }
    }

    /** A note alone is as late as its player leans. */
    private static void leanings(WhiteclothTable t, Answers answers) {
        for (int left = t.notes(); left > 0; left--) {
            answers.of("drop", () -> t.drop(0));
        }
        answers.of("setBell", () -> t.setBell(59, true));
        answers.of("note", () -> t.note(0, 59, 1, 'r'));
        for (int i = 0; i < 13; i++) {
            int player = i;
            answers.of("give 59 " + player, () -> t.give(59, player));
            answers.of("lateOf", () -> t.lateOf(0));
        }
    }

    private static void pages(WhiteclothTable t, Answers answers) {
        for (int i = 0; i < 13; i++) {
            for (int j = 0; j < 9; j++) {
                int player = i;
                int page = j;
                answers.of("turnOf " + player + " " + page, () -> t.turnOf(player, page));
            }
        }
        answers.of("spread", () -> t.spread());
        for (int i = 0; i < 7; i++) {
            int choir = i;
            answers.of("aheadOf " + choir, () -> t.aheadOf(choir));
        }
    }

    /** Fills up what is counted, so that its count and its end show. */
    private static void rows(WhiteclothTable t, Answers answers) {
        for (int i = 0; i < 13; i++) {
            answers.of("addPlayer", () -> t.addPlayer(9, 0));
        }
        for (int i = 0; i < 9; i++) {
            answers.of("endPage", () -> t.endPage(200));
        }
        for (int i = 0; i < 7; i++) {
            answers.of("addChoir", () -> t.addChoir(0, 100));
        }
        for (int i = 0; i < 7; i++) {
            int choir = i;
            answers.of("aheadOf " + choir, () -> t.aheadOf(choir));
        }
        answers.of("setBell", () -> t.setBell(59, true));
        for (int i = 0; i < 61; i++) {
            int tick = i;
            answers.of("note " + tick, () -> t.note(tick, 59, 1, 'r'));
        }
    }

    private static void deals(WhiteclothTable t, Answers answers) {
        answers.of("fewest", () -> t.fewest());
        answers.of("deal", () -> t.deal());
        for (int i = 0; i < 60; i++) {
            int pitch = i;
            answers.of("ownerOf " + pitch, () -> t.ownerOf(pitch));
        }
    }

    private static void strokes(WhiteclothTable t, Answers answers) {
        for (int i = 0; i < 70; i++) {
            answers.of("perform", () -> t.perform());
        }
        for (int i = 0; i < 60; i++) {
            int pitch = i;
            answers.of("strokesOf " + pitch, () -> t.strokesOf(pitch));
            answers.of("serve " + pitch, () -> t.serve(pitch));
        }
        answers.of("perform", () -> t.perform());
    }

    /** Levels show lengths and ways too. */
    private static void sounds(WhiteclothTable t, Answers answers, int first) {
        answers.of("loudest", () -> t.loudest());
        answers.of("clashes", () -> t.clashes());
        for (int i = first; i < first + 126 && i <= 500; i++) {
            int tick = i;
            answers.of("levelAt " + tick, () -> t.levelAt(tick));
        }
    }
}
