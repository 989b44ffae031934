import java.util.ArrayList;
import java.util.Arrays;
import java.util.Comparator;
import java.util.HashMap;
import java.util.List;
import java.util.Map;
import java.util.NoSuchElementException;
import java.util.TreeMap;

/**
 * The document once more, written to be plain and not to be quick, and by other ways than the program:
 * plans by looking at both hands of every note, deals by looking at every deal.
 */
final class Model {
    static final class Told {
        int tick;
        int pitch;
        int length;
        char way;
        int slip;
    }

    final TreeMap<Integer, int[]> bells = new TreeMap<>();
    final List<Told> notes = new ArrayList<>();
    final List<int[]> players = new ArrayList<>();
    final List<Integer> row = new ArrayList<>();
    final List<Integer> pages = new ArrayList<>();
    final List<Integer> choirs = new ArrayList<>();
    int rest = 2;

    static void need(boolean holds, RuntimeException otherwise) {
        if (!holds) {
            throw otherwise;
        }
    }

    static void range(int number, int least, int most) {
        need(number >= least && number <= most, new IllegalArgumentException());
    }

    static void index(int number, int count) {
        need(number >= 0 && number < count, new IndexOutOfBoundsException());
    }

    static int weight(int pitch) {
        return 1 + (59 - pitch) / 7;
    }

    int owner(int pitch) {
        int[] bell = bells.get(pitch);
        return bell == null ? -1 : bell[0];
    }

    boolean setBell(int pitch, boolean is) {
        range(pitch, 0, 59);
        need(is || notes.stream().noneMatch(n -> n.pitch == pitch), new UnsupportedOperationException());
        boolean was = bells.containsKey(pitch);
        if (is) {
            bells.putIfAbsent(pitch, new int[] {-1, 0});
        } else {
            bells.remove(pitch);
        }
        return was;
    }

    int note(int tick, int pitch, int length, char way) {
        need("rsmde".indexOf(way) >= 0, new IllegalArgumentException());
        range(tick, 0, 400);
        range(pitch, 0, 59);
        range(length, 1, 64);
        need(bells.containsKey(pitch), new UnsupportedOperationException());
        for (int t = tick; t < tick + length; t++) {
            for (Told n : notes) {
                need(n.pitch != pitch || t < n.tick || t >= n.tick + n.length, new UnsupportedOperationException());
            }
        }
        need(notes.size() < 60, new IllegalStateException());
        Told told = new Told();
        told.tick = tick;
        told.pitch = pitch;
        told.length = length;
        told.way = way;
        notes.add(told);
        notes.sort(Comparator.comparingInt((Told n) -> n.tick).thenComparingInt(n -> n.pitch));
        return notes.size();
    }

    int drop(int note) {
        index(note, notes.size());
        notes.remove(note);
        return notes.size();
    }

    int transpose(int by) {
        range(by, -59, 59);
        for (Told n : notes) {
            need(bells.containsKey(n.pitch + by), new UnsupportedOperationException());
        }
        notes.forEach(n -> n.pitch += by);
        return notes.size();
    }

    int addPlayer(int strength, int leaning) {
        range(strength, 1, 9);
        range(leaning, -3, 3);
        need(players.size() < 12, new IllegalStateException());
        players.add(new int[] {strength, leaning});
        row.add(players.size() - 1);
        return players.size() - 1;
    }

    int swap(int player, int other) {
        index(player, players.size());
        index(other, players.size());
        java.util.Collections.swap(row, row.indexOf(player), row.indexOf(other));
        return row.indexOf(player);
    }

    int placeOf(int player) {
        index(player, players.size());
        return row.indexOf(player);
    }

    int give(int pitch, int player) {
        index(player + 1, players.size() + 1);
        range(pitch, 0, 59);
        need(bells.containsKey(pitch), new UnsupportedOperationException());
        need(player == -1 || players.get(player)[0] >= weight(pitch), new UnsupportedOperationException());
        int before = owner(pitch);
        bells.get(pitch)[0] = player;
        return before;
    }

    int ownerOf(int pitch) {
        range(pitch, 0, 59);
        return owner(pitch);
    }

    int setRest(int ticks) {
        range(ticks, 0, 8);
        int before = rest;
        rest = ticks;
        return before;
    }

    // A plan is {changes, hand of note 0, hand of note 1, ..}, or null.

    boolean follows(Told a, Told b) {
        return a == null || b.tick >= a.tick + a.length + (a.pitch == b.pitch ? 0 : rest);
    }

    int[] bestPlan(List<Told> mine) {
        Map<Integer, Integer> known = new HashMap<>();
        int least = least(mine, 0, -1, -1, known);
        if (least > 999) {
            return null;
        }
        int[] plan = new int[mine.size() + 1];
        plan[0] = least;
        int[] last = {-1, -1};
        int left = least;
        for (int i = 0; i < mine.size(); i++) {
            for (int hand = 0; hand < 2; hand++) {
                int step = change(mine, last[hand], i);
                int[] then = last.clone();
                then[hand] = i;
                if (step + least(mine, i + 1, then[0], then[1], known) == left) {
                    plan[i + 1] = hand;
                    left -= step;
                    last = then;
                    break;
                }
            }
        }
        return plan;
    }

    int change(List<Told> mine, int from, int to) {
        Told a = from < 0 ? null : mine.get(from);
        if (!follows(a, mine.get(to))) {
            return 1000;
        }
        return a == null || a.pitch == mine.get(to).pitch ? 0 : 1;
    }

    int least(List<Told> mine, int i, int last0, int last1, Map<Integer, Integer> known) {
        if (i == mine.size()) {
            return 0;
        }
        int key = (i * 64 + last0 + 1) * 64 + last1 + 1;
        Integer found = known.get(key);
        if (found == null) {
            int zero = change(mine, last0, i);
            int one = change(mine, last1, i);
            zero = zero >= 1000 ? 1000 : zero + least(mine, i + 1, i, last1, known);
            one = one >= 1000 ? 1000 : one + least(mine, i + 1, last0, i, known);
            found = Math.min(1000, Math.min(zero, one));
            known.put(key, found);
        }
        return found;
    }

    /** The best plan by looking at all of them, for few notes. */
    int[] bestOfAllPlans(List<Told> mine) {
        int n = mine.size();
        int[] best = null;
        for (int code = 0; code < 1 << n; code++) {
            int[] plan = new int[n + 1];
            Told[] last = new Told[2];
            boolean is = true;
            for (int i = 0; i < n && is; i++) {
                int hand = code >> (n - 1 - i) & 1;
                Told before = last[hand];
                is = follows(before, mine.get(i));
                plan[0] += before != null && before.pitch != mine.get(i).pitch ? 1 : 0;
                plan[i + 1] = hand;
                last[hand] = mine.get(i);
            }
            if (is && (best == null || plan[0] < best[0])) {
                best = plan;
            }
        }
        return best;
    }

    List<Told> notesOf(int player) {
        List<Told> mine = new ArrayList<>();
        for (Told n : notes) {
            if (owner(n.pitch) == player) {
                mine.add(n);
            }
        }
        return mine;
    }

    int[] planOf(int player) {
        index(player, players.size());
        List<Told> mine = notesOf(player);
        int[] plan = bestPlan(mine);
        if (mine.size() <= 10 && !Arrays.equals(plan, bestOfAllPlans(mine))) {
            throw new AssertionError("the model is wrong");
        }
        return plan;
    }

    boolean hasPlan(int player) {
        return planOf(player) != null;
    }

    int changes(int player) {
        int[] plan = planOf(player);
        need(plan != null, new NoSuchElementException());
        return plan[0];
    }

    int handOf(int note) {
        index(note, notes.size());
        Told asked = notes.get(note);
        int player = owner(asked.pitch);
        need(player >= 0, new NoSuchElementException());
        int[] plan = planOf(player);
        need(plan != null, new NoSuchElementException());
        return plan[notesOf(player).indexOf(asked) + 1];
    }

    int loadOf(int player) {
        index(player, players.size());
        return notesOf(player).stream().mapToInt(n -> weight(n.pitch)).sum();
    }

    // A deal is {changes, players, bells of place 0, bells of place 1, ..}.

    List<int[]> allDeals() {
        List<Integer> rung = new ArrayList<>();
        for (int pitch : bells.keySet()) {
            if (notes.stream().anyMatch(n -> n.pitch == pitch)) {
                rung.add(pitch);
            }
        }
        List<int[]> deals = new ArrayList<>();
        dealOn(rung, 0, 0, 0, new int[12], new HashMap<>(), deals);
        return deals;
    }

    void dealOn(List<Integer> rung, int from, int place, int changes, int[] got, Map<Integer, Integer> known,
            List<int[]> deals) {
        if (from == rung.size()) {
            int[] deal = new int[14];
            deal[0] = changes;
            deal[1] = place;
            System.arraycopy(got, 0, deal, 2, place);
            deals.add(deal);
            return;
        }
        if (place == players.size()) {
            return;
        }
        for (int to = from + 1; to <= rung.size(); to++) {
            List<Integer> part = rung.subList(from, to);
            int strength = players.get(row.get(place))[0];
            int some = part.stream().anyMatch(p -> weight(p) > strength) ? 1000
                    : known.computeIfAbsent(from * 64 + to, k -> changesWith(part));
            if (some < 1000) {
                got[place] = to - from;
                dealOn(rung, to, place + 1, changes + some, got, known, deals);
            }
        }
    }

    int changesWith(List<Integer> part) {
        List<Told> mine = new ArrayList<>();
        for (Told n : notes) {
            if (part.contains(n.pitch)) {
                mine.add(n);
            }
        }
        int[] plan = bestPlan(mine);
        return plan == null ? 1000 : plan[0];
    }

    int deal() {
        List<int[]> deals = allDeals();
        need(!deals.isEmpty(), new NoSuchElementException());
        int[] best = deals.get(0);
        for (int[] deal : deals) {
            if (isBetter(deal, best)) {
                best = deal;
            }
        }
        int place = 0;
        int left = best[2];
        for (int pitch : bells.keySet()) {
            boolean rings = notes.stream().anyMatch(n -> n.pitch == pitch);
            while (rings && left == 0) {
                place++;
                left = best[2 + place];
            }
            bells.get(pitch)[0] = rings ? row.get(place) : -1;
            left -= rings ? 1 : 0;
        }
        return best[0];
    }

    static boolean isBetter(int[] deal, int[] than) {
        for (int i = 0; i < deal.length; i++) {
            if (deal[i] != than[i]) {
                return i < 2 ? deal[i] < than[i] : deal[i] > than[i];
            }
        }
        return false;
    }

    int fewest() {
        List<int[]> deals = allDeals();
        need(!deals.isEmpty(), new NoSuchElementException());
        return deals.stream().mapToInt(d -> d[1]).min().getAsInt();
    }

    int slip(int note, int by) {
        index(note, notes.size());
        range(by, -50, 50);
        int before = notes.get(note).slip;
        notes.get(note).slip = by;
        return before;
    }

    /** By how much each note is late, null for one that nobody has. */
    Integer[] lates() {
        Integer[] late = new Integer[notes.size()];
        for (int i = 0; i < late.length; i++) {
            int player = owner(notes.get(i).pitch);
            if (player < 0) {
                continue;
            }
            int place = row.indexOf(player);
            int heard = 0;
            for (int beside = place - 1; beside <= place + 1; beside++) {
                for (int j = i - 1; j >= 0 && beside >= 0 && beside < row.size(); j--) {
                    if (owner(notes.get(j).pitch) == row.get(beside)) {
                        heard += late[j];
                        break;
                    }
                }
            }
            int sum = heard / 3 + players.get(player)[1] + notes.get(i).slip;
            late[i] = sum > 99 ? 99 : sum < -99 ? -99 : sum;
        }
        return late;
    }

    int lateOf(int note) {
        index(note, notes.size());
        Integer late = lates()[note];
        need(late != null, new NoSuchElementException());
        return late;
    }

    int mostLate() {
        Integer[] late = lates();
        int found = -1;
        for (int i = late.length - 1; i >= 0; i--) {
            if (late[i] != null && (found < 0 || Math.abs(late[i]) >= Math.abs(late[found]))) {
                found = i;
            }
        }
        need(found >= 0, new NoSuchElementException());
        return found;
    }

    int carries(int note) {
        index(note, notes.size());
        Integer[] with = lates();
        int slip = notes.get(note).slip;
        notes.get(note).slip = 0;
        Integer[] without = lates();
        notes.get(note).slip = slip;
        int count = 0;
        for (int i = 0; i < with.length; i++) {
            count += i != note && with[i] != null && !with[i].equals(without[i]) ? 1 : 0;
        }
        return count;
    }

    static int level(Told n, int tick) {
        int a = tick - n.tick;
        if (a < 0 || a >= n.length) {
            return 0;
        }
        int level = switch (n.way) {
            case 'r' -> 100 - 4 * a;
            case 's' -> 60;
            case 'm' -> 80 - 10 * a;
            case 'd' -> a == 0 ? 50 : 0;
            default -> a % 2 == 0 ? 90 - 6 * a : 30;
        };
        return (level < 0 ? 0 : level) * (10 + weight(n.pitch)) / 10;
    }

    int levelAt(int tick) {
        range(tick, 0, 500);
        return notes.stream().mapToInt(n -> level(n, tick)).sum();
    }

    int loudest() {
        need(!notes.isEmpty(), new NoSuchElementException());
        int found = 0;
        for (int tick = 1; tick <= 500; tick++) {
            found = levelAt(tick) > levelAt(found) ? tick : found;
        }
        return found;
    }

    int clashes() {
        int count = 0;
        for (int tick = 0; tick <= 500; tick++) {
            boolean is = false;
            for (Told a : notes) {
                for (Told b : notes) {
                    int apart = Math.abs(a.pitch - b.pitch) % 12;
                    is |= level(a, tick) > 0 && level(b, tick) > 0 && (apart == 1 || apart == 6 || apart == 11);
                }
            }
            count += is ? 1 : 0;
        }
        return count;
    }

    int endPage(int tick) {
        range(tick, 0, 400);
        need(pages.size() < 8, new IllegalStateException());
        pages.add(tick);
        return pages.size();
    }

    int turnOf(int player, int page) {
        index(player, players.size());
        index(page, pages.size());
        int[] plan = planOf(player);
        need(plan != null, new NoSuchElementException());
        List<Told> mine = notesOf(player);
        int end = pages.get(page);
        for (int tick = end - 6; tick <= end + 6; tick++) {
            for (int hand = 0; hand < 2; hand++) {
                boolean free = tick >= 0;
                for (int i = 0; i < mine.size(); i++) {
                    Told n = mine.get(i);
                    boolean rings = n.tick <= tick + 1 && tick < n.tick + n.length;
                    free &= plan[i + 1] != hand || !rings;
                }
                if (free) {
                    return tick;
                }
            }
        }
        throw new NoSuchElementException();
    }

    int perform() {
        for (Told n : notes) {
            int player = owner(n.pitch);
            need(player >= 0 && planOf(player) != null && bells.get(n.pitch)[1] < 200,
                    new UnsupportedOperationException());
        }
        int sum = 0;
        for (Told n : notes) {
            bells.get(n.pitch)[1] += n.way == 's' ? 3 : 1;
            sum += n.way == 's' ? 3 : 1;
        }
        return sum;
    }

    int strokesOf(int pitch) {
        range(pitch, 0, 59);
        return bells.containsKey(pitch) ? bells.get(pitch)[1] : 0;
    }

    int serve(int pitch) {
        int before = strokesOf(pitch);
        if (bells.containsKey(pitch)) {
            bells.get(pitch)[1] = 0;
        }
        return before;
    }

    int addChoir(int lag, int metres) {
        range(lag, 0, 99);
        range(metres, 0, 200);
        need(choirs.size() < 6, new IllegalStateException());
        choirs.add(lag + 3 * metres);
        return choirs.size() - 1;
    }

    int spread() {
        int widest = 0;
        for (int a : choirs) {
            for (int b : choirs) {
                widest = Math.max(widest, a - b);
            }
        }
        return widest;
    }

    int aheadOf(int choir) {
        index(choir, choirs.size());
        return choirs.get(choir) - choirs.stream().mapToInt(c -> c).min().getAsInt();
    }

    float ownedShare() {
        need(!notes.isEmpty(), new ArithmeticException());
        return (float) notes.stream().filter(n -> owner(n.pitch) >= 0).count() / (float) notes.size();
    }

    double meanLoad() {
        need(!players.isEmpty(), new ArithmeticException());
        int sum = 0;
        for (int p = 0; p < players.size(); p++) {
            sum += loadOf(p);
        }
        return (double) sum / (double) players.size();
    }

    long checksum() {
        long sum = 7;
        for (Told n : notes) {
            for (int part : new int[] {n.tick, n.pitch, n.length, n.slip}) {
                sum = 31 * sum + part;
            }
        }
        for (int[] bell : bells.values()) {
            sum = 31 * (31 * sum + bell[0]) + bell[1];
        }
        for (int p = 0; p < players.size(); p++) {
            sum = 31 * sum + row.indexOf(p);
        }
        return 31 * sum + rest;
    }
}
