import java.util.ArrayList;
import java.util.Arrays;
import java.util.NoSuchElementException;

/** Bells on a white cloth, the notes told of them, and the players and choirs who ring them. */
public final class WhiteclothTable {
    private static final int PITCHES = 60;
    private static final int MOST_NOTES = 60;
    private static final int MOST_PLAYERS = 12;
    private static final int MOST_PAGES = 8;
    private static final int MOST_CHOIRS = 6;
    private static final int LAST_FIRST_TICK = 400;
    private static final int LONGEST_NOTE = 64;
    private static final int LAST_SOUNDING_TICK = LAST_FIRST_TICK + LONGEST_NOTE - 1;
    private static final int LAST_ASKED_TICK = 500;
    private static final int MOST_REST = 8;
    private static final int MOST_SLIP = 50;
    private static final int MOST_LATE = 99;
    private static final int TURN_WINDOW = 6;
    private static final int WORN = 200;
    private static final int NOBODY = -1;
    private static final int NO_NOTE = -1;
    /** Stands for "cannot be" wherever changes or costs are compared; every real one is far below. */
    private static final int NEVER = 1000000;
    /** More than there can be players, so that one change weighs more than all of them. */
    private static final int CHANGE_WEIGHT = 16;

    private static final char RUNG = 'r';
    private static final char SHAKEN = 's';
    private static final char BY_MALLET = 'm';
    private static final char DAMPED = 'd';
    private static final char ECHOED = 'e';

    private final Bell[] bells = new Bell[PITCHES];
    private final ArrayList<Note> score = new ArrayList<>();
    private final ArrayList<Player> players = new ArrayList<>();
    private final ArrayList<Integer> pageEnds = new ArrayList<>();
    private final ArrayList<Integer> choirDelays = new ArrayList<>();
    private final Planner planner = new Planner();
    private final Dealer dealer = new Dealer(planner);
    private final int[] lates = new int[MOST_NOTES];
    private final int[] latesWithout = new int[MOST_NOTES];
    private final int[] latestOfPlace = new int[MOST_PLAYERS];
    private int rest = 2;

    public WhiteclothTable() {
        for (int pitch = 0; pitch < bells.length; pitch++) {
            bells[pitch] = new Bell(pitch);
        }
    }

    public boolean setBell(int pitch, boolean is) throws IllegalArgumentException, UnsupportedOperationException {
        Bell bell = bellAt(pitch);
        if (!is && hasNote(score, pitch)) {
            throw new UnsupportedOperationException("the bell has notes");
        }
        boolean was = bell.isThere;
        bell.isThere = is;
        if (!is) {
            bell.owner = NOBODY;
            bell.strokes = 0;
        }
        return was;
    }

    public int note(int tick, int pitch, int length, char way)
            throws IllegalArgumentException, UnsupportedOperationException, IllegalStateException {
        if (!isWay(way) || tick < 0 || tick > LAST_FIRST_TICK || length < 1 || length > LONGEST_NOTE) {
            throw new IllegalArgumentException("no such way, or a number is out of range");
        }
        Bell bell = bellAt(pitch);
        Note told = new Note(tick, pitch, length, way);
        if (!bell.isThere || meetsAnotherOfItsBell(told)) {
            throw new UnsupportedOperationException("no such bell, or it has a note there");
        }
        if (score.size() >= MOST_NOTES) {
            throw new IllegalStateException("too many notes");
        }
        score.add(orderOf(told), told);
        return score.size();
    }

    public int drop(int note) throws IndexOutOfBoundsException {
        requireNote(note);
        score.remove(note);
        return score.size();
    }

    public int notes() {
        return score.size();
    }

    public int tickOf(int note) throws IndexOutOfBoundsException {
        requireNote(note);
        return score.get(note).tick;
    }

    public int pitchOf(int note) throws IndexOutOfBoundsException {
        requireNote(note);
        return score.get(note).pitch;
    }

    public int transpose(int by) throws IllegalArgumentException, UnsupportedOperationException {
        if (by <= -PITCHES || by >= PITCHES) {
            throw new IllegalArgumentException("a number is out of range");
        }
        for (int i = 0; i < score.size(); i++) {
            if (!isBellThere(score.get(i).pitch + by)) {
                throw new UnsupportedOperationException("no bell for a note");
            }
        }
        // All notes move by as much, so their order stays.
        for (int i = 0; i < score.size(); i++) {
            score.get(i).pitch += by;
        }
        return score.size();
    }

    public int addPlayer(int strength, int leaning) throws IllegalArgumentException, IllegalStateException {
        if (strength < 1 || strength > 9 || leaning < -3 || leaning > 3) {
            throw new IllegalArgumentException("a number is out of range");
        }
        int number = players.size();
        if (number >= MOST_PLAYERS) {
            throw new IllegalStateException("too many players");
        }
        players.add(new Player(strength, leaning, number));
        return number;
    }

    public int swap(int player, int other) throws IndexOutOfBoundsException {
        requirePlayer(player);
        requirePlayer(other);
        Player one = players.get(player);
        Player two = players.get(other);
        int place = two.place;
        two.place = one.place;
        one.place = place;
        return place;
    }

    public int placeOf(int player) throws IndexOutOfBoundsException {
        requirePlayer(player);
        return players.get(player).place;
    }

    public int give(int pitch, int player)
            throws IndexOutOfBoundsException, IllegalArgumentException, UnsupportedOperationException {
        if (player != NOBODY) {
            requirePlayer(player);
        }
        Bell bell = bellAt(pitch);
        if (!bell.isThere || player != NOBODY && players.get(player).strength < weightOf(pitch)) {
            throw new UnsupportedOperationException("no such bell, or it is too heavy");
        }
        int before = bell.owner;
        bell.owner = player;
        return before;
    }

    public int ownerOf(int pitch) throws IllegalArgumentException {
        return bellAt(pitch).owner;
    }

    public int setRest(int ticks) throws IllegalArgumentException {
        if (ticks < 0 || ticks > MOST_REST) {
            throw new IllegalArgumentException("a number is out of range");
        }
        int before = rest;
        rest = ticks;
        return before;
    }

    public boolean hasPlan(int player) throws IndexOutOfBoundsException {
        requirePlayer(player);
        return leastChangesOf(player) < NEVER;
    }

    public int changes(int player) throws IndexOutOfBoundsException, NoSuchElementException {
        requirePlayer(player);
        int least = leastChangesOf(player);
        if (least >= NEVER) {
            throw new NoSuchElementException("the player has no plan");
        }
        return least;
    }

    public int handOf(int note) throws IndexOutOfBoundsException, NoSuchElementException {
        requireNote(note);
        Note asked = score.get(note);
        int player = holderOf(asked);
        if (player == NOBODY || leastChangesOf(player) >= NEVER) {
            throw new NoSuchElementException("nobody has the bell, or there is no plan");
        }
        planner.chooseHands();
        return planner.handFor(asked);
    }

    public int loadOf(int player) throws IndexOutOfBoundsException {
        requirePlayer(player);
        return weightRungBy(player);
    }

    public int deal() throws NoSuchElementException {
        int cost = dealer.leastCost(score, players, rest, CHANGE_WEIGHT);
        if (cost >= NEVER) {
            throw new NoSuchElementException("there is no deal");
        }
        dealer.choosePlaces();
        for (int pitch = 0; pitch < bells.length; pitch++) {
            bells[pitch].owner = playerAt(dealer.placeFor(pitch));
        }
        return cost / CHANGE_WEIGHT;
    }

    public int fewest() throws NoSuchElementException {
        // With changes weighing nothing, what is left of the cost is the players.
        int cost = dealer.leastCost(score, players, rest, 0);
        if (cost >= NEVER) {
            throw new NoSuchElementException("there is no deal");
        }
        return cost;
    }

    public int slip(int note, int by) throws IndexOutOfBoundsException, IllegalArgumentException {
        requireNote(note);
        if (by < -MOST_SLIP || by > MOST_SLIP) {
            throw new IllegalArgumentException("a number is out of range");
        }
        Note slipped = score.get(note);
        int before = slipped.slip;
        slipped.slip = by;
        return before;
    }

    public int lateOf(int note) throws IndexOutOfBoundsException, NoSuchElementException {
        requireNote(note);
        if (holderOf(score.get(note)) == NOBODY) {
            throw new NoSuchElementException("nobody has the bell");
        }
        reckonLates(lates, NO_NOTE);
        return entry(lates, note);
    }

    public int mostLate() throws NoSuchElementException {
        reckonLates(lates, NO_NOTE);
        int found = NO_NOTE;
        int most = -1;
        for (int i = 0; i < score.size(); i++) {
            int amount = Math.abs(entry(lates, i));
            if (amount > most && holderOf(score.get(i)) != NOBODY) {
                most = amount;
                found = i;
            }
        }
        if (found == NO_NOTE) {
            throw new NoSuchElementException("nobody has a bell of a note");
        }
        return found;
    }

    public int carries(int note) throws IndexOutOfBoundsException {
        requireNote(note);
        reckonLates(lates, NO_NOTE);
        reckonLates(latesWithout, note);
        int carried = 0;
        for (int i = 0; i < score.size(); i++) {
            if (i != note && entry(lates, i) != entry(latesWithout, i)) {
                carried++;
            }
        }
        return carried;
    }

    public int levelAt(int tick) throws IllegalArgumentException {
        if (tick < 0 || tick > LAST_ASKED_TICK) {
            throw new IllegalArgumentException("a number is out of range");
        }
        return levelTogether(tick);
    }

    public int loudest() throws NoSuchElementException {
        if (score.isEmpty()) {
            throw new NoSuchElementException("there are no notes");
        }
        int found = 0;
        int most = 0;
        for (int tick = 0; tick <= LAST_SOUNDING_TICK; tick++) {
            int level = levelTogether(tick);
            if (level > most) {
                most = level;
                found = tick;
            }
        }
        return found;
    }

    public int clashes() {
        int count = 0;
        for (int tick = 0; tick <= LAST_SOUNDING_TICK; tick++) {
            if (hasClash(tick)) {
                count++;
            }
        }
        return count;
    }

    public int endPage(int tick) throws IllegalArgumentException, IllegalStateException {
        if (tick < 0 || tick > LAST_FIRST_TICK) {
            throw new IllegalArgumentException("a number is out of range");
        }
        if (pageEnds.size() >= MOST_PAGES) {
            throw new IllegalStateException("too many pages");
        }
        pageEnds.add(tick);
        return pageEnds.size();
    }

    public int turnOf(int player, int page) throws IndexOutOfBoundsException, NoSuchElementException {
        requirePlayer(player);
        if (page < 0 || page >= pageEnds.size()) {
            throw new IndexOutOfBoundsException("no such page");
        }
        int turn = leastChangesOf(player) < NEVER ? firstTurn(pageEnds.get(page)) : NEVER;
        if (turn >= NEVER) {
            throw new NoSuchElementException("the player has no plan, or no such tick");
        }
        return turn;
    }

    public int perform() throws UnsupportedOperationException {
        if (!canPerform()) {
            throw new UnsupportedOperationException("it cannot be performed");
        }
        int strokes = 0;
        for (int i = 0; i < score.size(); i++) {
            Note rung = score.get(i);
            int more = rung.way == SHAKEN ? 3 : 1;
            bellAt(rung.pitch).strokes += more;
            strokes += more;
        }
        return strokes;
    }

    public int strokesOf(int pitch) throws IllegalArgumentException {
        return bellAt(pitch).strokes;
    }

    public int serve(int pitch) throws IllegalArgumentException {
        Bell bell = bellAt(pitch);
        int before = bell.strokes;
        bell.strokes = 0;
        return before;
    }

    public int addChoir(int lag, int metres) throws IllegalArgumentException, IllegalStateException {
        if (lag < 0 || lag > 99 || metres < 0 || metres > 200) {
            throw new IllegalArgumentException("a number is out of range");
        }
        if (choirDelays.size() >= MOST_CHOIRS) {
            throw new IllegalStateException("too many choirs");
        }
        choirDelays.add(lag + 3 * metres);
        return choirDelays.size() - 1;
    }

    public int spread() {
        int first = firstDelay();
        int widest = 0;
        for (int i = 0; i < choirDelays.size(); i++) {
            widest = Math.max(widest, choirDelays.get(i) - first);
        }
        return widest;
    }

    public int aheadOf(int choir) throws IndexOutOfBoundsException {
        if (choir < 0 || choir >= choirDelays.size()) {
            throw new IndexOutOfBoundsException("no such choir");
        }
        return choirDelays.get(choir) - firstDelay();
    }

    public float ownedShare() throws ArithmeticException {
        int all = score.size();
        if (all == 0) {
            throw new ArithmeticException("there are no notes");
        }
        int owned = 0;
        for (int i = 0; i < all; i++) {
            if (holderOf(score.get(i)) != NOBODY) {
                owned++;
            }
        }
        return (float) owned / (float) all;
    }

    public double meanLoad() throws ArithmeticException {
        int all = players.size();
        if (all == 0) {
            throw new ArithmeticException("there are no players");
        }
        int sum = 0;
        for (int player = 0; player < all; player++) {
            sum += weightRungBy(player);
        }
        return (double) sum / (double) all;
    }

    public long checksum() {
        long sum = 7;
        for (int i = 0; i < score.size(); i++) {
            Note told = score.get(i);
            sum = 31 * sum + told.tick;
            sum = 31 * sum + told.pitch;
            sum = 31 * sum + told.length;
            sum = 31 * sum + told.slip;
        }
        for (Bell bell : bells) {
            if (bell.isThere) {
                sum = 31 * sum + bell.owner;
                sum = 31 * sum + bell.strokes;
            }
        }
        for (int player = 0; player < players.size(); player++) {
            sum = 31 * sum + players.get(player).place;
        }
        return 31 * sum + rest;
    }

    public boolean isTrue() {
        return bellsRingOneNoteAtOnce() && plansHold() && playersAreStrongEnough() && placesAreTaken();
    }

    private static int weightOf(int pitch) {
        return 1 + (PITCHES - 1 - pitch) / 7;
    }

    private static boolean isWay(char way) {
        return way == RUNG || way == SHAKEN || way == BY_MALLET || way == DAMPED || way == ECHOED;
    }

    private static boolean hasNote(ArrayList<Note> score, int pitch) {
        for (int i = 0; i < score.size(); i++) {
            if (score.get(i).pitch == pitch) {
                return true;
            }
        }
        return false;
    }

    /** The entry of a row, 0 outside of it. */
    private static int entry(int[] row, int index) {
        return index >= 0 && index < row.length ? row[index] : 0;
    }

    /** The cell of a table, NEVER outside of it. */
    private static int cell(int[][] table, int row, int column) {
        if (row < 0 || row >= table.length || column < 0 || column >= table[row].length) {
            return NEVER;
        }
        return table[row][column];
    }

    private static void setCell(int[][] table, int row, int column, int value) {
        if (row >= 0 && row < table.length && column >= 0 && column < table[row].length) {
            table[row][column] = value;
        }
    }

    private Bell bellAt(int pitch) {
        if (pitch < 0 || pitch >= bells.length) {
            throw new IllegalArgumentException("no such pitch");
        }
        return bells[pitch];
    }

    private void requireNote(int note) {
        if (note < 0 || note >= score.size()) {
            throw new IndexOutOfBoundsException("no such note");
        }
    }

    private void requirePlayer(int player) {
        if (player < 0 || player >= players.size()) {
            throw new IndexOutOfBoundsException("no such player");
        }
    }

    private boolean isBellThere(int pitch) {
        return pitch >= 0 && pitch < bells.length && bells[pitch].isThere;
    }

    /** Whether a note shares a tick with another one of the same bell. */
    private boolean meetsAnotherOfItsBell(Note note) {
        for (int i = 0; i < score.size(); i++) {
            Note other = score.get(i);
            if (other != note && other.pitch == note.pitch && other.meets(note)) {
                return true;
            }
        }
        return false;
    }

    private int orderOf(Note told) {
        int order = 0;
        while (order < score.size() && score.get(order).isAheadOf(told)) {
            order++;
        }
        return order;
    }

    /** The player who has the bell of a note. */
    private int holderOf(Note note) {
        return bellAt(note.pitch).owner;
    }

    private int playerAt(int place) {
        for (int player = 0; player < players.size(); player++) {
            if (players.get(player).place == place) {
                return player;
            }
        }
        return NOBODY;
    }

    /** Lays the notes of a player before the planner; NEVER if there is no plan for them. */
    private int leastChangesOf(int player) {
        planner.begin(rest);
        for (int i = 0; i < score.size(); i++) {
            Note note = score.get(i);
            if (holderOf(note) == player) {
                planner.add(note);
            }
        }
        return planner.leastChanges();
    }

    private int weightRungBy(int player) {
        int load = 0;
        for (int i = 0; i < score.size(); i++) {
            Note note = score.get(i);
            if (holderOf(note) == player) {
                load += weightOf(note.pitch);
            }
        }
        return load;
    }

    /** Fills a row with the lateness of each note, 0 where nobody has its bell; one may be taken without its slip. */
    private void reckonLates(int[] row, int without) {
        Arrays.fill(latestOfPlace, 0);
        for (int i = 0; i < score.size() && i < row.length; i++) {
            Note note = score.get(i);
            int player = holderOf(note);
            row[i] = 0;
            if (player >= 0 && player < players.size()) {
                row[i] = lateness(players.get(player), i == without ? 0 : note.slip);
            }
        }
    }

    private int lateness(Player player, int slip) {
        int place = player.place;
        int heard = entry(latestOfPlace, place - 1) + entry(latestOfPlace, place) + entry(latestOfPlace, place + 1);
        int late = Math.max(-MOST_LATE, Math.min(MOST_LATE, heard / 3 + player.leaning + slip));
        if (place >= 0 && place < latestOfPlace.length) {
            latestOfPlace[place] = late;
        }
        return late;
    }

    private int levelTogether(int tick) {
        int level = 0;
        for (int i = 0; i < score.size(); i++) {
            level += score.get(i).soundAt(tick);
        }
        return level;
    }

    private boolean hasClash(int tick) {
        // A clash hangs on pitches modulo 12 alone, so a bit for each of the twelve tells all of it.
        int sounding = 0;
        for (int i = 0; i < score.size(); i++) {
            Note note = score.get(i);
            if (note.soundAt(tick) > 0) {
                sounding |= 1 << note.pitch % 12;
            }
        }
        return (sounding & upBy(sounding, 1)) != 0 || (sounding & upBy(sounding, 6)) != 0;
    }

    /** Turns a ring of twelve bits up; up by 1 is down by 11 as well. */
    private static int upBy(int ring, int steps) {
        return (ring << steps | ring >>> (12 - steps)) & 0xFFF;
    }

    /** The tick at which the plan on the planner lets a page be turned, NEVER if there is none. */
    private int firstTurn(int end) {
        planner.chooseHands();
        for (int tick = Math.max(0, end - TURN_WINDOW); tick <= end + TURN_WINDOW; tick++) {
            if (planner.hasFreeHand(tick)) {
                return tick;
            }
        }
        return NEVER;
    }

    private boolean canPerform() {
        for (int i = 0; i < score.size(); i++) {
            Bell bell = bellAt(score.get(i).pitch);
            if (bell.owner == NOBODY || bell.strokes >= WORN) {
                return false;
            }
        }
        // Players without notes have plans, so asking all of them asks those who ring.
        for (int player = 0; player < players.size(); player++) {
            if (leastChangesOf(player) >= NEVER) {
                return false;
            }
        }
        return true;
    }

    private int firstDelay() {
        int first = NEVER;
        for (int i = 0; i < choirDelays.size(); i++) {
            first = Math.min(first, choirDelays.get(i));
        }
        return first;
    }

    private boolean bellsRingOneNoteAtOnce() {
        for (int i = 0; i < score.size(); i++) {
            if (meetsAnotherOfItsBell(score.get(i))) {
                return false;
            }
        }
        return true;
    }

    private boolean plansHold() {
        for (int player = 0; player < players.size(); player++) {
            if (leastChangesOf(player) < NEVER) {
                planner.chooseHands();
                if (!planner.handsHold()) {
                    return false;
                }
            }
        }
        return true;
    }

    private boolean playersAreStrongEnough() {
        for (Bell bell : bells) {
            int player = bell.owner;
            if (player >= 0 && player < players.size() && players.get(player).strength < weightOf(bell.pitch)) {
                return false;
            }
        }
        return true;
    }

    private boolean placesAreTaken() {
        // As many places as players: if each is taken, none is taken twice.
        for (int place = 0; place < players.size(); place++) {
            if (playerAt(place) == NOBODY) {
                return false;
            }
        }
        return true;
    }

    private static final class Bell {
        final int pitch;
        boolean isThere;
        int owner = NOBODY;
        int strokes;

        Bell(int pitch) {
            this.pitch = pitch;
        }
    }

    private static final class Player {
        final int strength;
        final int leaning;
        int place;

        Player(int strength, int leaning, int place) {
            this.strength = strength;
            this.leaning = leaning;
            this.place = place;
        }
    }

    private static final class Note {
        final int tick;
        final int length;
        /** The first tick behind it. */
        final int end;
        final char way;
        int pitch;
        int slip;

        Note(int tick, int pitch, int length, char way) {
            this.tick = tick;
            this.pitch = pitch;
            this.length = length;
            this.end = tick + length;
            this.way = way;
        }

        boolean isIn(int asked) {
            return asked >= tick && asked < end;
        }

        boolean meets(Note other) {
            return tick < other.end && other.tick < end;
        }

        boolean isAheadOf(Note other) {
            return tick < other.tick || tick == other.tick && pitch < other.pitch;
        }

        int soundAt(int asked) {
            return isIn(asked) ? Math.max(0, strikeAt(asked - tick)) * (10 + weightOf(pitch)) / 10 : 0;
        }

        private int strikeAt(int age) {
            if (way == RUNG) {
                return 100 - 4 * age;
            }
            if (way == SHAKEN) {
                return 60;
            }
            if (way == BY_MALLET) {
                return 80 - 10 * age;
            }
            if (way == DAMPED) {
                return age == 0 ? 50 : 0;
            }
            return age % 2 == 0 ? 90 - 6 * age : 30;
        }
    }

    /** Finds the best plan of two hands for a row of notes, which are added by order. */
    private static final class Planner {
        private final int[] starts = new int[MOST_NOTES];
        private final int[] ends = new int[MOST_NOTES];
        private final int[] pitches = new int[MOST_NOTES];
        private final int[] hands = new int[MOST_NOTES];
        /** The least changes still to come, by the last note of all and, one up, that of the other hand. */
        private final int[][] least = new int[MOST_NOTES][MOST_NOTES];
        private int count;
        private int rest;

        void begin(int restThen) {
            count = 0;
            rest = restThen;
        }

        void add(Note note) {
            if (count < starts.length) {
                starts[count] = note.tick;
                ends[count] = note.end;
                pitches[count] = note.pitch;
                count++;
            }
        }

        /** The changes of the best plan, NEVER if there is none. */
        int leastChanges() {
            if (count == 0) {
                return 0;
            }
            for (int other = NO_NOTE; other < count - 1; other++) {
                setCell(least, count - 1, other + 1, 0);
            }
            for (int last = count - 2; last >= 0; last--) {
                reckonRow(last);
            }
            return cell(least, 0, 0);
        }

        /** Picks the hands of the best plan; wants leastChanges() to have found that there is one. */
        void chooseHands() {
            int last = 0;
            int other = NO_NOTE;
            int hand = 0;
            for (int next = 1; next < count; next++) {
                int chosen = handBehind(last, other, hand);
                if (chosen != hand) {
                    other = last;
                    hand = chosen;
                }
                hands[next] = chosen;
                last = next;
            }
        }

        int handFor(Note note) {
            for (int i = 0; i < count; i++) {
                if (starts[i] == note.tick && pitches[i] == note.pitch) {
                    return hands[i];
                }
            }
            return 0;
        }

        /** Whether one hand has no note in a tick nor in the next one. */
        boolean hasFreeHand(int tick) {
            return isFree(0, tick) && isFree(0, tick + 1) || isFree(1, tick) && isFree(1, tick + 1);
        }

        /** Whether no hand has two notes at one tick, and each one rests between unlike bells. */
        boolean handsHold() {
            return handHolds(0) && handHolds(1);
        }

        private boolean handHolds(int hand) {
            int before = NO_NOTE;
            for (int i = 0; i < count; i++) {
                if (hands[i] == hand) {
                    if (step(before, i) >= NEVER) {
                        return false;
                    }
                    before = i;
                }
            }
            return true;
        }

        private boolean isFree(int hand, int tick) {
            for (int i = 0; i < count; i++) {
                if (hands[i] == hand && tick >= starts[i] && tick < ends[i]) {
                    return false;
                }
            }
            return true;
        }

        /** Reckons for one last note and every last note of the other hand, from what is known of the next note. */
        private void reckonRow(int last) {
            int on = step(last, last + 1);
            int behindOver = cell(least, last + 1, last + 1);
            for (int other = NO_NOTE; other < last; other++) {
                int goingOn = on + cell(least, last + 1, other + 1);
                int goingOver = step(other, last + 1) + behindOver;
                setCell(least, last, other + 1, Math.min(NEVER, Math.min(goingOn, goingOver)));
            }
        }

        /** The changes when one hand rings two notes in turn, NEVER if it cannot. */
        private int step(int from, int to) {
            if (from < 0 || to < 0 || from >= count || to >= count) {
                return from < 0 ? 0 : NEVER;
            }
            boolean isUnlike = pitches[from] != pitches[to];
            int ready = ends[from] + (isUnlike ? rest : 0);
            if (starts[to] < ready) {
                return NEVER;
            }
            return isUnlike ? 1 : 0;
        }

        /** The hand for the next note; the one of the last note goes on with it, or the other hand does. */
        private int handBehind(int last, int other, int hand) {
            int on = step(last, last + 1) + cell(least, last + 1, other + 1);
            int over = step(other, last + 1) + cell(least, last + 1, last + 1);
            if (on == over) {
                return 0;
            }
            return on < over ? hand : 1 - hand;
        }
    }

    /** Finds the best deal of the bells that have notes. */
    private static final class Dealer {
        private final Planner planner;
        /** The bells that have notes, from the lowest pitch on. */
        private final int[] pitches = new int[PITCHES];
        private final int[] strengths = new int[MOST_PLAYERS];
        /** The changes of one player with the bells from the first index to the second one. */
        private final int[][] changesOfRow = new int[PITCHES][PITCHES];
        /** The least cost of dealing the bells from an index on to the players from a place on. */
        private final int[][] costs = new int[MOST_PLAYERS + 1][PITCHES + 1];
        /** The last bell that the player at a place gets in the best deal from an index on. */
        private final int[][] lasts = new int[MOST_PLAYERS][PITCHES];
        private final int[] placeOfPitch = new int[PITCHES];
        private int bellCount;
        private int playerCount;

        Dealer(Planner planner) {
            this.planner = planner;
        }

        /** The cost of the best deal, a change at so much and a player at 1, NEVER if there is no deal. */
        int leastCost(ArrayList<Note> score, ArrayList<Player> players, int rest, int changeWeight) {
            gatherBells(score);
            gatherStrengths(players);
            for (int from = 0; from < bellCount; from++) {
                reckonRowsFrom(from, score, rest);
            }
            for (int place = playerCount; place >= 0; place--) {
                for (int from = bellCount; from >= 0; from--) {
                    reckonCost(place, from, changeWeight);
                }
            }
            return cell(costs, 0, 0);
        }

        /** Gives the bells of the best deal their places; wants leastCost() to have found that there is one. */
        void choosePlaces() {
            Arrays.fill(placeOfPitch, NOBODY);
            int from = 0;
            for (int place = 0; place < playerCount && from < bellCount; place++) {
                int last = cell(lasts, place, from);
                for (int bell = from; bell <= last && bell < bellCount; bell++) {
                    setPlace(entry(pitches, bell), place);
                }
                from = last + 1;
            }
        }

        /** The place whose player gets a bell, NOBODY if none does. */
        int placeFor(int pitch) {
            return pitch >= 0 && pitch < placeOfPitch.length ? placeOfPitch[pitch] : NOBODY;
        }

        private void setPlace(int pitch, int place) {
            if (pitch >= 0 && pitch < placeOfPitch.length) {
                placeOfPitch[pitch] = place;
            }
        }

        private void gatherBells(ArrayList<Note> score) {
            bellCount = 0;
            for (int pitch = 0; pitch < PITCHES; pitch++) {
                if (hasNote(score, pitch) && bellCount < pitches.length) {
                    pitches[bellCount] = pitch;
                    bellCount++;
                }
            }
        }

        private void gatherStrengths(ArrayList<Player> players) {
            playerCount = Math.min(players.size(), MOST_PLAYERS);
            for (int i = 0; i < players.size(); i++) {
                Player player = players.get(i);
                if (player.place >= 0 && player.place < strengths.length) {
                    strengths[player.place] = player.strength;
                }
            }
        }

        private void reckonRowsFrom(int from, ArrayList<Note> score, int rest) {
            int found = 0;
            for (int to = from; to < bellCount; to++) {
                // Where there is no plan, one more bell gives none: it need not be looked for.
                if (found < NEVER) {
                    found = changesBetween(entry(pitches, from), entry(pitches, to), score, rest);
                }
                setCell(changesOfRow, from, to, found);
            }
        }

        private int changesBetween(int lowest, int highest, ArrayList<Note> score, int rest) {
            planner.begin(rest);
            for (int i = 0; i < score.size(); i++) {
                Note note = score.get(i);
                if (note.pitch >= lowest && note.pitch <= highest) {
                    planner.add(note);
                }
            }
            return planner.leastChanges();
        }

        private void reckonCost(int place, int from, int changeWeight) {
            int least = from >= bellCount ? 0 : NEVER;
            if (from < bellCount && canLift(place, from)) {
                // From the longest row down, so that of like costs this player gets the most.
                for (int to = bellCount - 1; to >= from; to--) {
                    int cost = costOfRow(from, to, changeWeight) + cell(costs, place + 1, to + 1);
                    if (cost < least) {
                        least = cost;
                        setCell(lasts, place, from, to);
                    }
                }
            }
            setCell(costs, place, from, least);
        }

        /** Whether a player is there who lifts the bell; the ones above it weigh no more. */
        private boolean canLift(int place, int bell) {
            return place < playerCount && weightOf(entry(pitches, bell)) <= entry(strengths, place);
        }

        private int costOfRow(int from, int to, int changeWeight) {
            int changes = cell(changesOfRow, from, to);
            return changes < NEVER ? changes * changeWeight + 1 : NEVER;
        }
    }
}
