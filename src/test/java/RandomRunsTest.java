import java.util.Random;
import java.util.function.Supplier;

/** Promises 1 to 39 at once: long mixed runs, each answer and each exception against the model's. */
final class RandomRunsTest {
    private final Random random;
    private final WhiteclothTable t = new WhiteclothTable();
    private final Model m = new Model();
    private final int[] pitches;
    private final int lastTick;
    private final int longest;
    private final int mostNotes;
    private final int mostPlayers;
    private final String run;
    /** A table is good for 512 calls: what it answers behind them is free. */
    private int left = 512;

    private RandomRunsTest(long seed) {
        random = new Random(seed);
        run = "run " + seed + ": ";
        int kinds = 1 + random.nextInt(9);
        int lowest = random.nextInt(60);
        int width = kinds + random.nextInt(50);
        pitches = new int[kinds];
        for (int i = 0; i < kinds; i++) {
            pitches[i] = Math.min(59, lowest + random.nextInt(width));
        }
        lastTick = new int[] {8, 40, 150, 400}[random.nextInt(4)];
        longest = new int[] {1, 4, 12, 64}[random.nextInt(4)];
        mostNotes = new int[] {5, 12, 30, 60}[random.nextInt(4)];
        mostPlayers = new int[] {1, 1, 2, 3, 6, 12}[random.nextInt(6)];
    }

    public static void main(String[] args) {
        int runs = args.length > 0 ? Integer.parseInt(args[0]) : 1500;
        for (int seed = 0; seed < runs; seed++) {
            new RandomRunsTest(seed).calls();
        }
        Check.end("RandomRunsTest");
    }

    private void calls() {
        if (random.nextInt(5) != 0) {
            lay();
        }
        while (left > 0) {
            int what = random.nextInt(100);
            if (what < 30) {
                build();
            } else if (what < 45) {
                arrange();
            } else {
                ask();
            }
            both("checksum", () -> t.checksum(), () -> m.checksum());
        }
    }

    /** Lays a table at once, so that the calls behind it find notes, players and plans. */
    private void lay() {
        for (int pitch : pitches) {
            both("setBell " + pitch, () -> t.setBell(pitch, true), () -> m.setBell(pitch, true));
        }
        for (int i = 0; i < mostPlayers; i++) {
            addPlayer();
        }
        for (int pitch : pitches) {
            int player = random.nextInt(mostPlayers);
            both("give " + pitch + " " + player, () -> t.give(pitch, player), () -> m.give(pitch, player));
        }
        for (int i = 0; i < mostNotes; i++) {
            note();
        }
    }

    private int pitch() {
        return random.nextInt(12) == 0 ? random.nextInt(64) - 2 : pitches[random.nextInt(pitches.length)];
    }

    private int within(int least, int most) {
        int spare = random.nextInt(15) == 0 ? 2 : 0;
        return least - spare + random.nextInt(most - least + 1 + 2 * spare);
    }

    private int aNote() {
        return random.nextInt(12) == 0 ? random.nextInt(64) - 2 : random.nextInt(m.notes.size() + 1);
    }

    private int aPlayer() {
        return random.nextInt(12) == 0 ? random.nextInt(16) - 3 : random.nextInt(m.players.size() + 1);
    }

    private void build() {
        int what = random.nextInt(20);
        if (what < 4) {
            int pitch = pitch();
            boolean is = random.nextInt(8) != 0;
            both("setBell " + pitch + " " + is, () -> t.setBell(pitch, is), () -> m.setBell(pitch, is));
        } else if (what < 14 && m.notes.size() < mostNotes || what == 4) {
            note();
        } else if (what < 16 && m.players.size() < mostPlayers || what == 15 && random.nextInt(20) == 0) {
            addPlayer();
        } else if (what < 16) {
            slip();
        } else if (what < 17) {
            int note = aNote();
            both("drop " + note, () -> t.drop(note), () -> m.drop(note));
        } else if (what < 18) {
            int lag = within(0, 99);
            int metres = within(0, 200);
            both("addChoir " + lag + " " + metres, () -> t.addChoir(lag, metres), () -> m.addChoir(lag, metres));
        } else if (what < 19) {
            int tick = random.nextInt(2) == 0 ? within(0, 400) : random.nextInt(lastTick + 1);
            both("endPage " + tick, () -> t.endPage(tick), () -> m.endPage(tick));
        } else {
            int by = random.nextInt(2) == 0 ? within(-59, 59) : within(-2, 2);
            both("transpose " + by, () -> t.transpose(by), () -> m.transpose(by));
        }
    }

    private void note() {
        int tick = random.nextInt(30) == 0 ? within(0, 400) : random.nextInt(lastTick + 1);
        int pitch = pitch();
        int length = random.nextInt(30) == 0 ? within(1, 64) : 1 + random.nextInt(longest);
        char way = "rsmdex".charAt(random.nextInt(20) == 0 ? 5 : random.nextInt(5));
        both("note " + tick + " " + pitch + " " + length + " " + way, () -> t.note(tick, pitch, length, way),
                () -> m.note(tick, pitch, length, way));
    }

    private void addPlayer() {
        int strength = random.nextInt(2) == 0 ? 9 : within(1, 9);
        int leaning = within(-3, 3);
        both("addPlayer " + strength + " " + leaning, () -> t.addPlayer(strength, leaning),
                () -> m.addPlayer(strength, leaning));
    }

    private void slip() {
        int note = aNote();
        int by = within(-50, 50);
        both("slip " + note + " " + by, () -> t.slip(note, by), () -> m.slip(note, by));
    }

    private void arrange() {
        int what = random.nextInt(10);
        if (what < 4) {
            int pitch = pitch();
            int player = random.nextInt(6) == 0 ? -1 : aPlayer();
            both("give " + pitch + " " + player, () -> t.give(pitch, player), () -> m.give(pitch, player));
        } else if (what < 5) {
            int player = aPlayer();
            int other = aPlayer();
            both("swap " + player + " " + other, () -> t.swap(player, other), () -> m.swap(player, other));
        } else if (what < 6) {
            int ticks = within(0, 8);
            both("setRest " + ticks, () -> t.setRest(ticks), () -> m.setRest(ticks));
        } else if (what < 8) {
            slip();
        } else if (what < 9) {
            both("deal", () -> t.deal(), () -> m.deal());
        } else {
            both("perform", () -> t.perform(), () -> m.perform());
            int pitch = pitch();
            if (random.nextInt(20) == 0) {
                both("serve " + pitch, () -> t.serve(pitch), () -> m.serve(pitch));
            }
        }
    }

    private void ask() {
        int note = aNote();
        int player = aPlayer();
        int pitch = pitch();
        int tick = random.nextInt(2) == 0 ? within(0, 500) : random.nextInt(lastTick + 1);
        int small = random.nextInt(4) == 0 ? within(0, 8) : random.nextInt(m.pages.size() + 1);
        switch (random.nextInt(23)) {
            case 0 -> both("notes", () -> t.notes(), () -> m.notes.size());
            case 1 -> both("tickOf " + note, () -> t.tickOf(note), () -> told(note).tick);
            case 2 -> both("pitchOf " + note, () -> t.pitchOf(note), () -> told(note).pitch);
            case 3 -> both("placeOf " + player, () -> t.placeOf(player), () -> m.placeOf(player));
            case 4 -> both("ownerOf " + pitch, () -> t.ownerOf(pitch), () -> m.ownerOf(pitch));
            case 5 -> both("hasPlan " + player, () -> t.hasPlan(player), () -> m.hasPlan(player));
            case 6 -> both("changes " + player, () -> t.changes(player), () -> m.changes(player));
            case 7, 8 -> both("handOf " + note, () -> t.handOf(note), () -> m.handOf(note));
            case 9 -> both("loadOf " + player, () -> t.loadOf(player), () -> m.loadOf(player));
            case 10 -> both("fewest", () -> t.fewest(), () -> m.fewest());
            case 11 -> both("lateOf " + note, () -> t.lateOf(note), () -> m.lateOf(note));
            case 12 -> both("mostLate", () -> t.mostLate(), () -> m.mostLate());
            case 13 -> both("carries " + note, () -> t.carries(note), () -> m.carries(note));
            case 14 -> both("levelAt " + tick, () -> t.levelAt(tick), () -> m.levelAt(tick));
            case 15 -> both("loudest", () -> t.loudest(), () -> m.loudest());
            case 16 -> both("clashes", () -> t.clashes(), () -> m.clashes());
            case 17 -> both("turnOf " + player + " " + small, () -> t.turnOf(player, small),
                    () -> m.turnOf(player, small));
            case 18 -> both("strokesOf " + pitch, () -> t.strokesOf(pitch), () -> m.strokesOf(pitch));
            case 19 -> both("spread", () -> t.spread(), () -> m.spread());
            case 20 -> both("aheadOf " + small, () -> t.aheadOf(small), () -> m.aheadOf(small));
            case 21 -> {
                both("ownedShare", () -> t.ownedShare(), () -> m.ownedShare());
                both("meanLoad", () -> t.meanLoad(), () -> m.meanLoad());
            }
            default -> both("isTrue", () -> t.isTrue(), () -> true);
        }
    }

    private Model.Told told(int note) {
        Model.index(note, m.notes.size());
        return m.notes.get(note);
    }

    private void both(String call, Supplier<Object> program, Supplier<Object> model) {
        if (left > 0) {
            left--;
            Check.same(run + call, Traces.outcome(program), outcomeOf(model));
        }
    }

    private static String outcomeOf(Supplier<Object> model) {
        try {
            return String.valueOf(model.get());
        } catch (RuntimeException e) {
            return "throws." + e.getClass().getSimpleName();
        }
    }
}
