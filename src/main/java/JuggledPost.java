import java.util.Arrays;

/** A city of throwers that juggle the post from roof to roof, told as a text. */
public final class JuggledPost {
    public static final int NONE = -1;

    private static final int NO_SUCH = -2;
    private static final int BELOW_NOTHING = -3;
    private static final int FAULTY = -4;
    private static final int UNFIT = -5;
    private static final int HAS_NOTHING = -6;
    private static final int BEYOND = -7;
    private static final int UNLIKE_WIDTHS = -8;

    private static final int MOST_ROOFS = 6;
    private static final int MOST_THROWS = 8;
    private static final int MOST_LETTERS = 8;
    private static final int MOST_CROSSES = 6;
    private static final int TOP = 9;
    private static final int LAST_BEAT = 99_999;
    private static final int MOST_BEATS = 10_000;
    private static final int MOST_GUST_BEATS = 2_000;
    private static final int LAST_SEED = 2_000_000_000;
    private static final int MOST_YEARS = 20;
    private static final int MOST_FOLLOWED = 200;
    private static final int IMAGES = 3;

    private static final int PLAIN = 0;
    private static final int LEFT = 1;
    private static final int SLOW = 2;
    private static final int BLIND = 3;
    private static final int LEARNER = 4;
    private static final int SLOW_TOP = 5;
    private static final int BLIND_FROM = 3;

    private final City town = new City();
    private final City draft = new City();
    private final City[] images = new City[IMAGES];
    private final boolean[] kept = new boolean[IMAGES];
    private final Scribe scribe = new Scribe(draft);
    private final Flight flight = new Flight();
    private final Mail mail = new Mail();
    private final Solo solo = new Solo();
    private final Tally tally = new Tally();
    private final Storm storm = new Storm();
    private final Slots slots = new Slots();

    public JuggledPost() {
        for (int k = 0; k < IMAGES; k++) {
            images[k] = new City();
        }
    }

    // ---- the text

    public int feed(int a, int b, int c, int d, int e) {
        if (!scribe.hasRoom(20)) {
            return NONE;
        }
        scribe.append(a);
        scribe.append(b);
        scribe.append(c);
        scribe.append(d);
        scribe.append(e);
        return scribe.length;
    }

    public int end(int n) {
        if (n < 0 || n > scribe.length) {
            return NONE;
        }
        scribe.length = n;
        return n;
    }

    public int city() {
        if (!scribe.readAll()) {
            return FAULTY;
        }
        scribe.length = 0;
        town.copyOf(draft);
        return town.lines;
    }

    public int fault(int what) {
        if (what == 0) {
            return scribe.fault;
        }
        return what == 1 ? scribe.faultPlace : NONE;
    }

    // ---- rows

    public int tosses(int roof, int beat, int what) {
        if (!town.hasRoof(roof) || !isBeat(beat) || !isWithin(what, 2)) {
            return NO_SUCH;
        }
        if (what == 0) {
            return town.heightAt(roof, beat);
        }
        if (what == 1) {
            return town.goalAt(roof, beat);
        }
        int hand = beat % 2;
        return town.kinds[roof] == LEFT ? 1 - hand : hand;
    }

    public int period(int roof) {
        return town.hasRoof(roof) ? town.lengths[roof] : NO_SUCH;
    }

    public int turn() {
        return town.isTold() ? flight.roundOf(town) : NO_SUCH;
    }

    public int set(int roof, int i, int height, int to) {
        if (!town.hasThrow(roof, i) || !town.hasRoof(to) || !isWithin(height, TOP)) {
            return NO_SUCH;
        }
        if (height == 0 && to != roof) {
            return NO_SUCH;
        }
        int before = 10 * town.heightAt(roof, i) + town.goalAt(roof, i);
        town.put(roof, i, height, to);
        return before;
    }

    public int swap(int roof, int i, int k) {
        if (!town.hasThrow(roof, i) || !town.hasThrow(roof, k) || i == k) {
            return NO_SUCH;
        }
        return trade(roof, i, roof, k);
    }

    public int exchange(int roof, int i, int other, int k) {
        if (!town.hasThrow(roof, i) || !town.hasThrow(other, k) || roof == other) {
            return NO_SUCH;
        }
        if (town.lengths[roof] != town.lengths[other]) {
            return UNFIT;
        }
        return trade(roof, i, other, k);
    }

    private int trade(int roof, int i, int other, int k) {
        int mine = town.heightAt(roof, i);
        int theirs = town.heightAt(other, k);
        int myGoal = town.goalAt(roof, i);
        int theirGoal = town.goalAt(other, k);
        int myNew = theirs + k - i;
        int theirNew = mine + i - k;
        if (mine == 0 || theirs == 0 || !isThrown(myNew) || !isThrown(theirNew)) {
            return UNFIT;
        }
        town.put(roof, i, myNew, theirGoal);
        town.put(other, k, theirNew, myGoal);
        return 0;
    }

    public int shift(int roof, int n) {
        if (!town.hasThrow(roof, n)) {
            return NO_SUCH;
        }
        draft.copyOf(town);
        int length = town.lengths[roof];
        for (int i = 0; i < length; i++) {
            town.put(roof, i, draft.heightAt(roof, i + n), draft.goalAt(roof, i + n));
        }
        return length;
    }

    public int backwards() {
        if (!town.isTold()) {
            return NO_SUCH;
        }
        if (!flight.isKeptUp(town)) {
            return NONE;
        }
        int round = flight.roundOf(town);
        if (round > MOST_THROWS) {
            return UNFIT;
        }
        draft.copyOf(town);
        for (int roof = 0; roof < town.roofs; roof++) {
            draft.resize(roof, round);
            for (int i = 0; i < round; i++) {
                int source = flight.sourceOf(town, roof, round - i);
                draft.put(roof, i, source < 0 ? 0 : source / 10, source < 0 ? roof : source % 10);
            }
        }
        town.copyOf(draft);
        return round;
    }

    // ---- whether it is kept up

    public int keeps() {
        if (!town.isTold()) {
            return NO_SUCH;
        }
        return flight.isKeptUp(town) ? 1 : 0;
    }

    public int clash(int what) {
        if (!town.isTold() || !isWithin(what, 2)) {
            return NO_SUCH;
        }
        if (flight.isKeptUp(town)) {
            return NONE;
        }
        if (what == 0) {
            return town.clashBeat;
        }
        return what == 1 ? town.clashRoof : town.clashBalls;
    }

    public int balls() {
        if (!town.isTold()) {
            return NO_SUCH;
        }
        return flight.isKeptUp(town) ? flight.ballsOf(town) : NONE;
    }

    public int lands(int roof, int beat) {
        if (!town.hasRoof(roof) || !isBeat(beat)) {
            return NO_SUCH;
        }
        return flight.isKeptUp(town) ? flight.sourceOf(town, roof, beat) : NONE;
    }

    public int air(int beat) {
        if (!town.isTold() || !isBeat(beat)) {
            return NO_SUCH;
        }
        return flight.isKeptUp(town) ? flight.aloftBehind(town, beat) : NONE;
    }

    // ---- one ball

    public int ball(int roof, int beat, int n, int what) {
        if (!town.hasRoof(roof) || !isBeat(beat) || !isWithin(n, MOST_FOLLOWED) || !isWithin(what, 1)) {
            return NO_SUCH;
        }
        if (!flight.isThrownFrom(town, roof, beat)) {
            return NONE;
        }
        flight.follow(town, roof, beat, n);
        return what == 0 ? flight.roof : flight.beat;
    }

    public int orbit(int roof, int beat, int what) {
        if (!town.hasRoof(roof) || !isBeat(beat) || !isWithin(what, 3)) {
            return NO_SUCH;
        }
        if (!flight.isThrownFrom(town, roof, beat)) {
            return NONE;
        }
        flight.goRound(town, roof, beat);
        if (what == 0) {
            return flight.orbitThrows;
        }
        if (what == 1) {
            return flight.orbitHeights;
        }
        return what == 2 ? flight.orbitBalls : flight.orbitRoofs;
    }

    public int orbits() {
        if (!town.isTold()) {
            return NO_SUCH;
        }
        return flight.isKeptUp(town) ? flight.orbitsOf(town) : NONE;
    }

    public int same(int roof, int beat, int other, int later) {
        if (!town.hasRoof(roof) || !isBeat(beat) || !town.hasRoof(other) || !isBeat(later)) {
            return NO_SUCH;
        }
        if (!flight.isThrownFrom(town, roof, beat)) {
            return NONE;
        }
        if (later < beat) {
            return 0;
        }
        return flight.comesBy(town, roof, beat, other, later) ? 1 : 0;
    }

    public int misses(int roof, int beat, int other) {
        if (!town.hasRoof(roof) || !isBeat(beat) || !town.hasRoof(other)) {
            return NO_SUCH;
        }
        if (!flight.isThrownFrom(town, roof, beat)) {
            return NONE;
        }
        return flight.firstDown(town, roof, beat, other);
    }

    public int missed(int roof, int beat, int other, int n) {
        if (!town.hasRoof(roof) || !isBeat(beat) || !town.hasRoof(other) || !isWithin(n, MOST_BEATS)) {
            return NO_SUCH;
        }
        if (!flight.isThrownFrom(town, roof, beat) || flight.firstDown(town, roof, beat, other) == NONE) {
            return NONE;
        }
        return flight.timesDown(town, roof, beat, other, n);
    }

    // ---- crossings, kinds, wages

    public int crossings(int what) {
        if (!town.isTold() || !isWithin(what, 3)) {
            return NO_SUCH;
        }
        int round = flight.roundOf(town);
        int number = 0;
        int first = NONE;
        for (int beat = 0; beat < round; beat++) {
            for (int roof = 0; roof < town.roofs; roof++) {
                if (town.crossesAt(roof, beat)) {
                    number++;
                    first = first == NONE ? beat * 10 + roof : first;
                }
            }
        }
        if (what == 0) {
            return number;
        }
        if (first == NONE) {
            return NONE;
        }
        if (what == 1) {
            return first / 10;
        }
        return what == 2 ? first % 10 : town.goalAt(first % 10, first / 10);
    }

    public int suits(int roof) {
        if (!town.hasRoof(roof)) {
            return NO_SUCH;
        }
        return firstUnsuited(roof) == NONE ? 1 : 0;
    }

    public int unsuited(int roof) {
        return town.hasRoof(roof) ? firstUnsuited(roof) : NO_SUCH;
    }

    private int firstUnsuited(int roof) {
        int beats = 2 * flight.roundOf(town);
        for (int beat = 0; beat < beats; beat++) {
            if (!town.suitsAt(roof, beat)) {
                return beat;
            }
        }
        return NONE;
    }

    public long wages(int roof, int n) {
        if (!town.hasRoof(roof) || !isWithin(n, MOST_BEATS)) {
            return NO_SUCH;
        }
        int length = town.lengths[roof];
        if (length < 1) {
            return NO_SUCH;
        }
        long sum = 0;
        for (int i = 0; i < length && i < n; i++) {
            long height = town.heightAt(roof, i);
            long times = (n - i + length - 1) / length;
            long wage = height * height * times;
            sum += town.goalAt(roof, i) == roof ? wage : 2 * wage;
        }
        return sum;
    }

    public int carries(int from, int to) {
        if (!town.hasRoof(from) || !town.hasRoof(to)) {
            return NO_SUCH;
        }
        int number = 0;
        int round = flight.roundOf(town);
        for (int beat = 0; beat < round; beat++) {
            if (town.heightAt(from, beat) > 0 && town.goalAt(from, beat) == to) {
                number++;
            }
        }
        return number;
    }

    public int busiest(int what) {
        if (!town.isTold() || !isWithin(what, 1)) {
            return NO_SUCH;
        }
        int most = NONE;
        int first = 0;
        int round = flight.roundOf(town);
        for (int beat = 0; beat < round; beat++) {
            int busy = town.throwersAt(beat);
            if (busy > most) {
                most = busy;
                first = beat;
            }
        }
        return what == 0 ? first : most;
    }

    public int silent(int roof) {
        if (!town.hasRoof(roof)) {
            return NO_SUCH;
        }
        int number = 0;
        int round = flight.roundOf(town);
        for (int beat = 0; beat < round; beat++) {
            if (town.heightAt(roof, beat) == 0) {
                number++;
            }
        }
        return number;
    }

    // ---- letters

    public int letter(int letter, int what) {
        return town.hasLetter(letter) && isWithin(what, 2) ? town.posts[3 * letter + what] : NO_SUCH;
    }

    public int alone(int letter) {
        if (!town.hasLetter(letter)) {
            return NO_SUCH;
        }
        int roof = town.posts[3 * letter];
        int beat = town.posts[3 * letter + 1];
        if (!flight.isThrownFrom(town, roof, beat)) {
            return NONE;
        }
        return flight.firstDown(town, roof, beat, town.posts[3 * letter + 2]);
    }

    public int soonest(int letter, int what) {
        if (!town.hasLetter(letter) || !isWithin(what, 2)) {
            return NO_SUCH;
        }
        mail.plan(town, letter);
        if (mail.arrival == NONE || what == 0) {
            return mail.arrival;
        }
        return what == 1 ? mail.hops : mail.waits;
    }

    public int way(int letter, int i) {
        if (!town.hasLetter(letter) || i < 0) {
            return NO_SUCH;
        }
        mail.plan(town, letter);
        return i < mail.hops ? mail.path[i] : NONE;
    }

    public int readers(int letter, int beat) {
        if (!town.hasLetter(letter) || !isBeat(beat)) {
            return NO_SUCH;
        }
        int roof = town.posts[3 * letter];
        int start = town.posts[3 * letter + 1];
        if (!flight.isThrownFrom(town, roof, start)) {
            return NONE;
        }
        return beat < start ? 0 : flight.roofsUpTo(town, roof, start, beat);
    }

    public int latest(int letter, int beat) {
        if (!town.hasLetter(letter) || !isBeat(beat)) {
            return NO_SUCH;
        }
        return mail.lastLeave(town, letter, beat);
    }

    // ---- rows alone

    public int state(int roof, int i) {
        return town.hasThrow(roof, i) ? solo.stateOf(town, roof, i) : NO_SUCH;
    }

    public int change(int roof, int i, int other, int k) {
        if (!town.hasThrow(roof, i) || !town.hasThrow(other, k)) {
            return NO_SUCH;
        }
        return solo.throwsBetween(solo.stateOf(town, roof, i), solo.stateOf(town, other, k));
    }

    public int changes(int roof, int i, int other, int k, int n) {
        if (!town.hasThrow(roof, i) || !town.hasThrow(other, k) || n < 0) {
            return NO_SUCH;
        }
        int from = solo.stateOf(town, roof, i);
        int number = solo.throwsBetween(from, solo.stateOf(town, other, k));
        return n < number ? solo.throwOfChange(from, n) : NONE;
    }

    public int ground(int roof, int i) {
        if (!town.hasThrow(roof, i)) {
            return NO_SUCH;
        }
        int from = solo.stateOf(town, roof, i);
        if (from == NONE) {
            return NONE;
        }
        return solo.throwsBetween(from, (1 << Integer.bitCount(from)) - 1);
    }

    public long rows(int p, int b, int top) {
        if (!isRowKind(p, b, top)) {
            return NO_SUCH;
        }
        return tally.waysOf(p, b, top);
    }

    public int least(int p, int b, int top, int n) {
        if (!isRowKind(p, b, top) || n < 0 || n >= p) {
            return NO_SUCH;
        }
        return tally.waysOf(p, b, top) == 0 ? NONE : tally.heightOfLeast(p, b, top, n);
    }

    private static boolean isRowKind(int p, int b, int top) {
        return p >= 1 && p <= MOST_THROWS && isWithin(b, TOP) && isWithin(top, TOP);
    }

    // ---- gusts

    public int gusts(int seed, int n, int what) {
        if (!areGusts(seed, n) || !isWithin(what, 2)) {
            return NO_SUCH;
        }
        if (!flight.isKeptUp(town)) {
            return NONE;
        }
        storm.blow(town, seed, n, what != 0);
        if (what == 0) {
            return flight.ballsOf(town) - storm.drops;
        }
        return what == 1 ? storm.dropBeat : storm.dropRoof;
    }

    public int years(int seed, int k, int n) {
        if (!areGusts(seed, n) || k < 1 || k > MOST_YEARS) {
            return NO_SUCH;
        }
        if (!flight.isKeptUp(town)) {
            return NONE;
        }
        int number = 0;
        for (int year = 0; year < k; year++) {
            storm.blow(town, seed + year, n, true);
            if (storm.drops > 0) {
                number++;
            }
        }
        return number;
    }

    private boolean areGusts(int seed, int n) {
        return town.isTold() && isWithin(seed, LAST_SEED) && isWithin(n, MOST_GUST_BEATS);
    }

    // ---- slots, images

    public int judge(int slot, int roof) {
        int number = draftFrom(slot, roof);
        if (number < 0) {
            return number;
        }
        return flight.isKeptUp(draft) ? 1 : 0;
    }

    public int takes(int slot, int roof) {
        int number = draftFrom(slot, roof);
        if (number >= 0) {
            town.copyOf(draft);
        }
        return number;
    }

    private int draftFrom(int slot, int roof) {
        if (!slots.isSlot(slot) || !town.hasRoof(roof)) {
            return NO_SUCH;
        }
        if (!slots.isFilled(slot)) {
            return HAS_NOTHING;
        }
        int number = slots.sizes[slot];
        if (number < 1 || number > MOST_THROWS) {
            return NO_SUCH;
        }
        draft.copyOf(town);
        draft.resize(roof, number);
        for (int i = 0; i < number; i++) {
            long told = slots.numberAt(slot, i);
            if (!isThrowOf(roof, told)) {
                return NO_SUCH;
            }
            draft.put(roof, i, (int) told / 10, (int) told % 10);
        }
        return number;
    }

    private boolean isThrowOf(int roof, long told) {
        if (told < 0 || told > 10 * TOP + MOST_ROOFS) {
            return false;
        }
        int goal = (int) told % 10;
        return town.hasRoof(goal) && (told >= 10 || goal == roof);
    }

    public int count(int what) {
        switch (what) {
            case 0: return town.roofs;
            case 1: return town.letters;
            case 2: return town.pairs();
            case 3: return town.lines;
            case 4: return scribe.length;
            case 5: return town.gustFrom;
            case 6: return town.odds;
            case 7: return town.busyRoofs();
            case 8: return slots.filled();
            default: return NONE;
        }
    }

    public int keep(int k) {
        City image = imageAt(k);
        if (image == null) {
            return NO_SUCH;
        }
        image.copyOf(town);
        kept[k] = true;
        return 0;
    }

    public int back(int k) {
        City image = imageAt(k);
        if (image == null) {
            return NO_SUCH;
        }
        if (!kept[k]) {
            return HAS_NOTHING;
        }
        town.copyOf(image);
        return 0;
    }

    private City imageAt(int k) {
        return k >= 0 && k < IMAGES ? images[k] : null;
    }

    public int row(int slot, int width, int n) {
        if (!slots.isSlot(slot) || !isWithin(width, 3) || n > Slots.MOST) {
            return NO_SUCH;
        }
        if (n < 0) {
            return BELOW_NOTHING;
        }
        slots.open(slot, width, n);
        return 0;
    }

    public int write(int slot, int i, long v) {
        if (!slots.isSlot(slot)) {
            return NO_SUCH;
        }
        if (!slots.isFilled(slot)) {
            return HAS_NOTHING;
        }
        if (i < 0 || i >= slots.sizes[slot]) {
            return BEYOND;
        }
        slots.store(slot, i, v);
        return 0;
    }

    public int paste(int slot, int i, int to, int k, int n) {
        if (!slots.isSlot(slot) || !slots.isSlot(to)) {
            return NO_SUCH;
        }
        if (!slots.isFilled(slot) || !slots.isFilled(to)) {
            return HAS_NOTHING;
        }
        if (slots.widths[slot] != slots.widths[to]) {
            return UNLIKE_WIDTHS;
        }
        if (!slots.hasRun(slot, i, n) || !slots.hasRun(to, k, n)) {
            return BEYOND;
        }
        slots.carry(slot, i, to, k, n);
        return 0;
    }

    private static boolean isWithin(int number, int most) {
        return number >= 0 && number <= most;
    }

    private static boolean isBeat(int beat) {
        return isWithin(beat, LAST_BEAT);
    }

    private static boolean isThrown(int height) {
        return height >= 1 && height <= TOP;
    }

    /** What the text tells, with the rows as they are now; no roofs: there is none. */
    private static final class City {
        int roofs;
        int lines;
        int letters;
        int gustFrom;
        int odds;
        final int[] heights = new int[MOST_ROOFS * MOST_THROWS];
        final int[] goals = new int[MOST_ROOFS * MOST_THROWS];
        final int[] lengths = new int[MOST_ROOFS];
        final int[] kinds = new int[MOST_ROOFS];
        /** Of each roof, as bits, the roofs with which it must not cross. */
        final int[] rivals = new int[MOST_ROOFS];
        /** Of each letter its roof, its beat and where it is to go. */
        final int[] posts = new int[3 * MOST_LETTERS];
        /** Whether round and clash below are those of the rows as they are: to look for them is dear. */
        boolean looked;
        int round;
        int clashBeat;
        int clashRoof;
        int clashBalls;

        void wipe() {
            roofs = 0;
            lines = 0;
            letters = 0;
            gustFrom = 0;
            odds = 0;
            looked = false;
        }

        void found(int number) {
            roofs = Math.min(number, MOST_ROOFS);
            gustFrom = TOP;
            for (int roof = 0; roof < roofs; roof++) {
                lengths[roof] = 1;
                put(roof, 0, 0, roof);
                kinds[roof] = PLAIN;
                rivals[roof] = 0;
            }
        }

        void copyOf(City other) {
            roofs = other.roofs;
            lines = other.lines;
            letters = other.letters;
            gustFrom = other.gustFrom;
            odds = other.odds;
            System.arraycopy(other.heights, 0, heights, 0, heights.length);
            System.arraycopy(other.goals, 0, goals, 0, goals.length);
            System.arraycopy(other.lengths, 0, lengths, 0, lengths.length);
            System.arraycopy(other.kinds, 0, kinds, 0, kinds.length);
            System.arraycopy(other.rivals, 0, rivals, 0, rivals.length);
            System.arraycopy(other.posts, 0, posts, 0, posts.length);
            looked = false;
        }

        boolean isTold() {
            return roofs > 0;
        }

        boolean hasRoof(int roof) {
            return roof >= 0 && roof < roofs;
        }

        boolean hasThrow(int roof, int i) {
            return hasRoof(roof) && i >= 0 && i < lengths[roof];
        }

        boolean hasLetter(int letter) {
            return letter >= 0 && letter < letters;
        }

        int heightAt(int roof, int beat) {
            return heights[spot(roof, beat)];
        }

        int goalAt(int roof, int beat) {
            return goals[spot(roof, beat)];
        }

        private int spot(int roof, int beat) {
            int length = roof >= 0 && roof < roofs ? lengths[roof] : 0;
            return length < 1 ? 0 : roof * MOST_THROWS + Math.floorMod(beat, length);
        }

        void put(int roof, int i, int height, int goal) {
            // goals are used as indices later on
            if (hasThrow(roof, i) && hasRoof(goal) && isWithin(height, TOP)) {
                heights[roof * MOST_THROWS + i] = height;
                goals[roof * MOST_THROWS + i] = goal;
                looked = false;
            }
        }

        void resize(int roof, int length) {
            if (hasRoof(roof) && length >= 1 && length <= MOST_THROWS) {
                lengths[roof] = length;
                looked = false;
            }
        }

        void employ(int roof, int kind) {
            if (hasRoof(roof)) {
                kinds[roof] = kind;
            }
        }

        void forbid(int roof, int other) {
            if (hasRoof(roof) && hasRoof(other)) {
                rivals[roof] |= 1 << other;
                rivals[other] |= 1 << roof;
            }
        }

        void post(int roof, int beat, int goal) {
            if (letters < MOST_LETTERS && hasRoof(roof) && hasRoof(goal)) {
                posts[3 * letters] = roof;
                posts[3 * letters + 1] = beat;
                posts[3 * letters + 2] = goal;
                letters++;
            }
        }

        int pairs() {
            int ends = 0;
            for (int roof = 0; roof < roofs; roof++) {
                ends += Integer.bitCount(rivals[roof]);
            }
            return ends / 2;
        }

        int busyRoofs() {
            int bits = 0;
            for (int roof = 0; roof < roofs; roof++) {
                for (int i = 0; i < lengths[roof]; i++) {
                    if (heightAt(roof, i) > 0) {
                        bits |= 1 << roof;
                    }
                }
            }
            return bits;
        }

        int throwersAt(int beat) {
            int number = 0;
            for (int roof = 0; roof < roofs; roof++) {
                if (heightAt(roof, beat) > 0) {
                    number++;
                }
            }
            return number;
        }

        /** Told of the lesser roof of a pair alone, so that each crossing is met once. */
        boolean crossesAt(int roof, int beat) {
            int goal = goalAt(roof, beat);
            return goal > roof && goalAt(goal, beat) == roof && (rivals[roof] >> goal & 1) == 1;
        }

        boolean suitsAt(int roof, int beat) {
            int kind = kinds[roof];
            if (kind == BLIND) {
                return !isLowThrownTo(roof, beat);
            }
            // a left thrower's hands are the other way round, and so is the hand that suits it
            if (goalAt(roof, beat) != roof && beat % 2 != 0) {
                return false;
            }
            int height = heightAt(roof, beat);
            if (kind == SLOW) {
                return height <= SLOW_TOP;
            }
            return kind != LEARNER || height == 0 || height == firstHeight(roof);
        }

        private boolean isLowThrownTo(int goal, int beat) {
            for (int roof = 0; roof < roofs; roof++) {
                int height = heightAt(roof, beat);
                if (height > 0 && height < BLIND_FROM && goalAt(roof, beat) == goal) {
                    return true;
                }
            }
            return false;
        }

        private int firstHeight(int roof) {
            for (int i = 0; i < lengths[roof]; i++) {
                if (heightAt(roof, i) > 0) {
                    return heightAt(roof, i);
                }
            }
            return 0;
        }
    }

    /** Reads the tape into a city that is not yet the one in force. */
    private static final class Scribe {
        private static final int MOST_BYTES = 1_600;
        private static final int LAST_POST_BEAT = 9_999;
        private static final int MOST_ODDS = 100;
        /** Above every bound, so that a longer number need not be held. */
        private static final int BEYOND_BOUNDS = 1_000_000;
        private static final int END = 0;
        private static final int WORD = 1;
        private static final int NUMBER = 2;
        private static final int SIGN = 3;
        private static final int STRANGE = 4;

        final byte[] tape = new byte[MOST_BYTES];
        int length;
        int fault;
        int faultPlace = NONE;
        private final City draft;
        private int next;
        private int token;
        private int start;
        private int value;
        private int taken;
        private int crosses;
        private boolean gusty;

        Scribe(City draft) {
            this.draft = draft;
        }

        boolean hasRoom(int bytes) {
            return length + bytes <= MOST_BYTES;
        }

        void append(int four) {
            for (int shift = 24; shift >= 0 && hasRoom(1); shift -= 8) {
                tape[length] = (byte) (four >> shift);
                length++;
            }
        }

        boolean readAll() {
            draft.wipe();
            next = 0;
            crosses = 0;
            gusty = false;
            fault = 0;
            faultPlace = NONE;
            advance();
            for (int lines = 0; lines < MOST_BYTES && token != END; lines++) {
                if (!readLine()) {
                    return false;
                }
                draft.lines++;
            }
            return true;
        }

        private boolean readLine() {
            boolean good;
            if (draft.lines == 0) {
                good = readRoofs();
            } else if (isWord("thrower")) {
                good = readThrower();
            } else if (isWord("throws")) {
                good = readThrows();
            } else if (isWord("cross")) {
                good = readCross();
            } else if (isWord("letter")) {
                good = readLetter();
            } else if (isWord("gusts")) {
                good = readGusts();
            } else {
                good = fail(1);
            }
            return good && takeSign();
        }

        private boolean readRoofs() {
            if (!takeWord("roofs") || !takeNumber(1, MOST_ROOFS, NONE)) {
                return false;
            }
            draft.found(taken);
            return true;
        }

        private boolean readThrower() {
            advance();
            if (!takeRoof(NONE)) {
                return false;
            }
            int kind = kindTold();
            if (kind == NONE) {
                return fail(1);
            }
            draft.employ(taken, kind);
            advance();
            return true;
        }

        private int kindTold() {
            if (isWord("plain")) {
                return PLAIN;
            }
            if (isWord("left")) {
                return LEFT;
            }
            if (isWord("slow")) {
                return SLOW;
            }
            if (isWord("blind")) {
                return BLIND;
            }
            return isWord("learner") ? LEARNER : NONE;
        }

        private boolean readThrows() {
            advance();
            if (!takeRoof(NONE)) {
                return false;
            }
            int roof = taken;
            for (int i = 0; i <= MOST_THROWS; i++) {
                if (i > 0 && token != NUMBER) {
                    return true;
                }
                // of a number that is too high as well the lesser fault is told, by readThrow
                if (i == MOST_THROWS && value <= TOP) {
                    return fail(3);
                }
                if (!readThrow(roof, i)) {
                    return false;
                }
            }
            return true;
        }

        private boolean readThrow(int roof, int i) {
            if (!takeNumber(0, TOP, NONE)) {
                return false;
            }
            int height = taken;
            int goal = roof;
            if (isWord("to")) {
                advance();
                int low = height == 0 ? roof : 0;
                int high = height == 0 ? roof : draft.roofs - 1;
                if (!takeNumber(low, high, NONE)) {
                    return false;
                }
                goal = taken;
            }
            draft.resize(roof, i + 1);
            draft.put(roof, i, height, goal);
            return true;
        }

        private boolean readCross() {
            if (crosses == MOST_CROSSES) {
                return fail(3);
            }
            advance();
            if (!takeRoof(NONE)) {
                return false;
            }
            int roof = taken;
            if (!takeRoof(roof)) {
                return false;
            }
            draft.forbid(roof, taken);
            crosses++;
            return true;
        }

        private boolean readLetter() {
            if (draft.letters == MOST_LETTERS) {
                return fail(3);
            }
            advance();
            if (!takeRoof(NONE)) {
                return false;
            }
            int roof = taken;
            if (!takeWord("at") || !takeNumber(0, LAST_POST_BEAT, NONE)) {
                return false;
            }
            int beat = taken;
            if (!takeWord("to") || !takeRoof(roof)) {
                return false;
            }
            draft.post(roof, beat, taken);
            return true;
        }

        private boolean readGusts() {
            if (gusty) {
                return fail(2);
            }
            gusty = true;
            advance();
            if (!takeWord("from") || !takeNumber(1, TOP, NONE)) {
                return false;
            }
            draft.gustFrom = taken;
            if (!takeWord("odds") || !takeNumber(0, MOST_ODDS, NONE)) {
                return false;
            }
            draft.odds = taken;
            return true;
        }

        private boolean takeSign() {
            if (token != SIGN) {
                return fail(1);
            }
            advance();
            return true;
        }

        private boolean takeWord(String word) {
            if (!isWord(word)) {
                return fail(1);
            }
            advance();
            return true;
        }

        private boolean takeNumber(int low, int high, int but) {
            if (token != NUMBER) {
                return fail(1);
            }
            if (value < low || value > high || value == but) {
                return fail(2);
            }
            taken = value;
            advance();
            return true;
        }

        private boolean takeRoof(int but) {
            return takeNumber(0, draft.roofs - 1, but);
        }

        private boolean fail(int kind) {
            fault = kind;
            faultPlace = start;
            return false;
        }

        private boolean isWord(String word) {
            if (token != WORD || next - start != word.length()) {
                return false;
            }
            for (int i = 0; i < word.length(); i++) {
                if (byteAt(start + i) != word.charAt(i)) {
                    return false;
                }
            }
            return true;
        }

        private void advance() {
            while (next < length && (byteAt(next) == ' ' || byteAt(next) == '\n')) {
                next++;
            }
            start = next;
            value = 0;
            if (next >= length) {
                token = END;
            } else if (isLowerCase(byteAt(next))) {
                token = WORD;
                while (next < length && isLowerCase(byteAt(next))) {
                    next++;
                }
            } else if (isDigit(byteAt(next))) {
                token = NUMBER;
                while (next < length && isDigit(byteAt(next))) {
                    value = Math.min(10 * value + byteAt(next) - '0', BEYOND_BOUNDS);
                    next++;
                }
            } else {
                token = byteAt(next) == ';' ? SIGN : STRANGE;
                next++;
            }
        }

        private int byteAt(int place) {
            return place >= 0 && place < length ? tape[place] & 255 : 0;
        }

        private static boolean isLowerCase(int sign) {
            return sign >= 'a' && sign <= 'z';
        }

        private static boolean isDigit(int sign) {
            return sign >= '0' && sign <= '9';
        }
    }

    /** Where balls come down, and the way of one ball. */
    private static final class Flight {
        /** The least number that all lengths of rows go into. */
        private static final int MOST_ROUND = 840;
        /** No ball meets more throws of the rows than there are. */
        private static final int MOST_STEPS = MOST_ROOFS * MOST_ROUND;
        /** Beats at which what is thrown now can come down, and this one. */
        private static final int AHEAD = TOP + 1;

        int roof;
        int beat;
        int orbitThrows;
        int orbitHeights;
        int orbitBalls;
        int orbitRoofs;
        private final int[] coming = new int[MOST_ROOFS * AHEAD];
        private final int[] met = new int[MOST_STEPS / 32 + 1];

        int roundOf(City c) {
            look(c);
            return c.round;
        }

        boolean isKeptUp(City c) {
            look(c);
            return c.clashBeat == NONE;
        }

        private void look(City c) {
            if (c.looked) {
                return;
            }
            c.round = leastRound(c);
            c.clashBeat = NONE;
            Arrays.fill(coming, 0);
            for (int ahead = -TOP; ahead < 0; ahead++) {
                throwAll(c, ahead);
            }
            for (int now = 0; now < c.round && c.clashBeat == NONE; now++) {
                findClash(c, now);
                throwAll(c, now);
            }
            c.looked = true;
        }

        private static int leastRound(City c) {
            int round = 1;
            for (int r = 0; r < c.roofs; r++) {
                int length = c.lengths[r];
                int times = 1;
                while (length > 0 && times < MOST_THROWS && round * times % length != 0) {
                    times++;
                }
                round = Math.min(round * times, MOST_ROUND);
            }
            return round;
        }

        private void throwAll(City c, int now) {
            for (int r = 0; r < c.roofs; r++) {
                coming[r * AHEAD + Math.floorMod(now, AHEAD)] = 0;
            }
            for (int r = 0; r < c.roofs; r++) {
                int height = c.heightAt(r, now);
                if (height > 0) {
                    coming[c.goalAt(r, now) * AHEAD + Math.floorMod(now + height, AHEAD)]++;
                }
            }
        }

        private void findClash(City c, int now) {
            for (int r = 0; r < c.roofs && c.clashBeat == NONE; r++) {
                int balls = coming[r * AHEAD + Math.floorMod(now, AHEAD)];
                if (balls != (c.heightAt(r, now) > 0 ? 1 : 0)) {
                    c.clashBeat = now;
                    c.clashRoof = r;
                    c.clashBalls = balls;
                }
            }
        }

        int ballsOf(City c) {
            return aloftBehind(c, 0);
        }

        int aloftBehind(City c, int now) {
            int number = 0;
            for (int r = 0; r < c.roofs; r++) {
                for (int ago = 0; ago < TOP; ago++) {
                    if (c.heightAt(r, now - ago) > ago) {
                        number++;
                    }
                }
            }
            return number;
        }

        int sourceOf(City c, int goal, int now) {
            for (int height = 1; height <= TOP; height++) {
                for (int r = 0; r < c.roofs; r++) {
                    if (c.heightAt(r, now - height) == height && c.goalAt(r, now - height) == goal) {
                        return 10 * height + r;
                    }
                }
            }
            return NONE;
        }

        boolean isThrownFrom(City c, int fromRoof, int fromBeat) {
            look(c);
            return c.clashBeat == NONE && c.heightAt(fromRoof, fromBeat) > 0;
        }

        private void begin(int fromRoof, int fromBeat) {
            roof = fromRoof;
            beat = fromBeat;
        }

        private void step(City c) {
            int height = c.heightAt(roof, beat);
            roof = c.goalAt(roof, beat);
            beat += height;
        }

        private boolean isRound(City c, int fromRoof, int fromBeat) {
            return roof == fromRoof && c.round > 0 && (beat - fromBeat) % c.round == 0;
        }

        void follow(City c, int fromRoof, int fromBeat, int n) {
            begin(fromRoof, fromBeat);
            for (int i = 0; i < n; i++) {
                step(c);
            }
        }

        void goRound(City c, int fromRoof, int fromBeat) {
            orbitThrows = 0;
            orbitRoofs = 0;
            begin(fromRoof, fromBeat);
            for (int i = 0; i < MOST_STEPS; i++) {
                orbitRoofs |= 1 << roof;
                orbitThrows++;
                step(c);
                if (isRound(c, fromRoof, fromBeat)) {
                    break;
                }
            }
            orbitHeights = beat - fromBeat;
            orbitBalls = c.round < 1 ? 0 : orbitHeights / c.round;
        }

        int orbitsOf(City c) {
            Arrays.fill(met, 0);
            int number = 0;
            for (int r = 0; r < c.roofs; r++) {
                for (int now = 0; now < c.round; now++) {
                    if (c.heightAt(r, now) > 0 && meet(r, now)) {
                        number++;
                        markOrbit(c, r, now);
                    }
                }
            }
            return number;
        }

        private void markOrbit(City c, int fromRoof, int fromBeat) {
            begin(fromRoof, fromBeat);
            for (int i = 0; i < MOST_STEPS; i++) {
                step(c);
                if (c.round < 1 || !meet(roof, beat % c.round)) {
                    return;
                }
            }
        }

        /** Whether it had not been met before. */
        private boolean meet(int r, int now) {
            int place = r * MOST_ROUND + now;
            if (place < 0 || place >= MOST_STEPS) {
                return false;
            }
            boolean fresh = (met[place >> 5] >> (place & 31) & 1) == 0;
            met[place >> 5] |= 1 << (place & 31);
            return fresh;
        }

        boolean comesBy(City c, int fromRoof, int fromBeat, int goal, int later) {
            goRound(c, fromRoof, fromBeat);
            if (orbitHeights < 1) {
                return false;
            }
            // whole orbits lead back to the same roof
            int due = fromBeat + (later - fromBeat) % orbitHeights;
            begin(fromRoof, fromBeat);
            for (int i = 0; i < MOST_STEPS && beat < due; i++) {
                step(c);
            }
            return beat == due && roof == goal;
        }

        int firstDown(City c, int fromRoof, int fromBeat, int goal) {
            begin(fromRoof, fromBeat);
            for (int i = 0; i < MOST_STEPS; i++) {
                step(c);
                if (roof == goal) {
                    return beat;
                }
                if (isRound(c, fromRoof, fromBeat)) {
                    return NONE;
                }
            }
            return NONE;
        }

        int timesDown(City c, int fromRoof, int fromBeat, int goal, int beats) {
            int number = 0;
            begin(fromRoof, fromBeat);
            for (int i = 0; i < beats; i++) {
                step(c);
                if (beat > fromBeat + beats) {
                    break;
                }
                if (roof == goal) {
                    number++;
                }
            }
            return number;
        }

        int roofsUpTo(City c, int fromRoof, int fromBeat, int last) {
            int bits = 0;
            begin(fromRoof, fromBeat);
            for (int i = 0; i <= MOST_STEPS && beat <= last; i++) {
                bits |= 1 << roof;
                step(c);
            }
            return bits;
        }
    }

    /** The soonest way of a letter, and how late it may leave. */
    private static final class Mail {
        /** A way needs five throws at most, each within eight beats and up to nine high: 80 beats. */
        private static final int SPAN = 96;
        /** Above every beat. */
        private static final int NEVER = 1_000_000_000;
        /** More throws than any way has. */
        private static final int FAR = 99;

        int arrival;
        int hops;
        int waits;
        final int[] path = new int[MOST_ROOFS];
        private int from;
        private int start;
        private int goal;
        private final int[] reached = new int[MOST_ROOFS];
        /** Of each beat from the start on and roof: the fewest throws from there. */
        private final int[] fewest = new int[SPAN * MOST_ROOFS];

        private void take(City c, int letter) {
            from = c.posts[3 * letter];
            start = c.posts[3 * letter + 1];
            goal = c.posts[3 * letter + 2];
        }

        void plan(City c, int letter) {
            take(c, letter);
            hops = 0;
            waits = 0;
            arrival = firstArrival(c);
            if (arrival != NONE) {
                fillFewest(c);
                trace(c);
            }
        }

        private int firstArrival(City c) {
            Arrays.fill(reached, NEVER);
            reached[from] = start;
            for (int beat = start; beat < start + SPAN && beat < reached[goal]; beat++) {
                for (int roof = 0; roof < c.roofs; roof++) {
                    int height = c.heightAt(roof, beat);
                    if (reached[roof] <= beat && height > 0) {
                        int to = c.goalAt(roof, beat);
                        reached[to] = Math.min(reached[to], beat + height);
                    }
                }
            }
            return reached[goal] < start + SPAN ? reached[goal] : NONE;
        }

        private void fillFewest(City c) {
            for (int beat = arrival; beat >= start; beat--) {
                for (int roof = 0; roof < c.roofs; roof++) {
                    int waiting = beat < arrival ? fewestFrom(roof, beat + 1) : FAR;
                    int number = roof == goal ? 0 : Math.min(waiting, fewestThrowing(c, roof, beat));
                    fewest[(beat - start) * MOST_ROOFS + roof] = number;
                }
            }
        }

        private int fewestFrom(int roof, int beat) {
            int place = (beat - start) * MOST_ROOFS + roof;
            return place >= 0 && place < fewest.length && beat <= arrival ? fewest[place] : FAR;
        }

        private int fewestThrowing(City c, int roof, int beat) {
            int height = c.heightAt(roof, beat);
            return height > 0 ? 1 + fewestFrom(c.goalAt(roof, beat), beat + height) : FAR;
        }

        private void trace(City c) {
            int roof = from;
            int due = fewestFrom(from, start);
            int since = start;
            for (int beat = start; beat < arrival && hops < MOST_ROOFS; beat++) {
                if (beat >= since && due > 0 && fewestThrowing(c, roof, beat) == due) {
                    path[hops] = 10 * beat + roof;
                    hops++;
                    due--;
                    waits += beat - since;
                    since = beat + c.heightAt(roof, beat);
                    roof = c.goalAt(roof, beat);
                }
            }
        }

        int lastLeave(City c, int letter, int due) {
            take(c, letter);
            // of each roof the latest beat from which the goal can be reached in time
            Arrays.fill(reached, NONE);
            reached[goal] = due;
            int first = Math.max(start, due - SPAN);
            for (int beat = due - 1; beat >= first && reached[from] == NONE; beat--) {
                for (int roof = 0; roof < c.roofs; roof++) {
                    int height = c.heightAt(roof, beat);
                    boolean inTime = height > 0 && beat + height <= reached[c.goalAt(roof, beat)];
                    if (reached[roof] == NONE && inTime) {
                        reached[roof] = beat;
                    }
                }
            }
            return reached[from];
        }
    }

    /** States of rows that are thrown alone, and the changes between them. */
    private static final class Solo {
        private static final int STATES = 1 << TOP;

        /** Of each state the fewest throws to the state last spread from. */
        private final int[] far = new int[STATES];
        private final int[] queue = new int[STATES];

        int stateOf(City c, int roof, int i) {
            if (!isKeptUpAlone(c, roof)) {
                return NONE;
            }
            int bits = 0;
            for (int ago = 1; ago <= TOP; ago++) {
                int left = c.heightAt(roof, i - ago) - ago;
                if (left >= 0) {
                    bits |= 1 << left;
                }
            }
            return bits;
        }

        private static boolean isKeptUpAlone(City c, int roof) {
            int length = c.lengths[roof];
            int met = 0;
            for (int i = 0; i < length; i++) {
                int bit = 1 << (i + c.heightAt(roof, i)) % length;
                if (c.goalAt(roof, i) != roof || (met & bit) != 0) {
                    return false;
                }
                met |= bit;
            }
            return true;
        }

        int throwsBetween(int from, int goal) {
            if (!isState(from) || !isState(goal)) {
                return NONE;
            }
            spread(goal);
            return far[from];
        }

        private static boolean isState(int bits) {
            return bits >= 0 && bits < STATES;
        }

        private void spread(int goal) {
            Arrays.fill(far, NONE);
            int tail = reach(goal, 0, 0);
            for (int head = 0; head < tail && head < STATES; head++) {
                int after = queue[head];
                int number = far[after] + 1;
                tail = reach(after << 1, number, tail);
                for (int height = 1; height <= TOP; height++) {
                    int bit = 1 << (height - 1);
                    if ((after & bit) != 0) {
                        tail = reach((after & ~bit) << 1 | 1, number, tail);
                    }
                }
            }
        }

        private int reach(int bits, int number, int tail) {
            if (!isState(bits) || far[bits] != NONE || tail >= STATES) {
                return tail;
            }
            far[bits] = number;
            queue[tail] = bits;
            return tail + 1;
        }

        /** Of the change that throwsBetween() was asked for last. */
        int throwOfChange(int from, int n) {
            int bits = from;
            int height = 0;
            for (int i = 0; i <= n && i < STATES; i++) {
                height = leastThrow(bits);
                bits = behind(bits, height);
            }
            return height;
        }

        private int leastThrow(int bits) {
            if ((bits & 1) == 0) {
                return 0;
            }
            for (int height = 1; height <= TOP; height++) {
                int after = behind(bits, height);
                if ((bits >> height & 1) == 0 && far[after] == far[bits] - 1) {
                    return height;
                }
            }
            return 0;
        }

        private static int behind(int bits, int height) {
            return (height == 0 ? bits : bits | 1 << height) >> 1 & STATES - 1;
        }
    }

    /** How many rows there are that can be kept up alone. */
    private static final class Tally {
        private static final int SIZES = TOP + 1;

        private int period;
        private int highest;
        /** Of each set of beats (as bits) at which something comes down, and number of balls still to come. */
        private final int[] ways = new int[(1 << MOST_THROWS) * SIZES];

        int waysOf(int p, int balls, int top) {
            fill(p, top);
            return waysOn(0, balls);
        }

        private void fill(int p, int top) {
            if (p == period && top == highest) {
                return;
            }
            period = p;
            highest = top;
            Arrays.fill(ways, 0);
            int all = (1 << p) - 1;
            ways[all * SIZES] = 1;
            for (int taken = all - 1; taken >= 0; taken--) {
                for (int height = 0; height <= top; height++) {
                    addWays(taken, height);
                }
            }
        }

        /** The throw that is next is the one behind as many as beats are taken. */
        private void addWays(int taken, int height) {
            int down = Integer.bitCount(taken) + height;
            int after = taken | bitOf(down);
            if (after == taken) {
                return;
            }
            int turns = turnsOf(down);
            for (int left = turns; left < SIZES; left++) {
                ways[taken * SIZES + left] += ways[after * SIZES + left - turns];
            }
        }

        private int bitOf(int down) {
            return period < 1 ? 0 : 1 << down % period;
        }

        // a row's balls are the turns of it that its throws go over, all together
        private int turnsOf(int down) {
            return period < 1 ? 0 : down / period;
        }

        private int waysOn(int taken, int left) {
            int place = taken * SIZES + left;
            return left < 0 || left >= SIZES || place < 0 || place >= ways.length ? 0 : ways[place];
        }

        int heightOfLeast(int p, int balls, int top, int n) {
            fill(p, top);
            int taken = 0;
            int left = balls;
            int height = 0;
            for (int i = 0; i <= n; i++) {
                height = leastHeight(taken, left, i);
                taken |= bitOf(i + height);
                left -= turnsOf(i + height);
            }
            return height;
        }

        private int leastHeight(int taken, int left, int i) {
            for (int height = 0; height < highest; height++) {
                int after = taken | bitOf(i + height);
                if (after != taken && waysOn(after, left - turnsOf(i + height)) > 0) {
                    return height;
                }
            }
            return highest;
        }
    }

    /** Gusts by draws. */
    private static final class Storm {
        /** What a number modulo 2,147,483,648 keeps of its bits. */
        private static final int LOW_BITS = 0x7fffffff;

        int drops;
        int dropBeat;
        int dropRoof;
        private int x;
        /** Of each roof, as bits, the beats from now on at which a ball comes down. */
        private final int[] coming = new int[MOST_ROOFS];

        void blow(City c, int seed, int beats, boolean firstAlone) {
            drops = 0;
            dropBeat = NONE;
            dropRoof = NONE;
            x = seed;
            // without odds no draw is ever below them
            if (c.odds == 0) {
                return;
            }
            fillComing(c);
            for (int beat = 0; beat < beats && !(firstAlone && drops > 0); beat++) {
                for (int roof = 0; roof < c.roofs; roof++) {
                    if ((coming[roof] & 1) != 0) {
                        launch(c, roof, beat);
                    }
                }
                for (int roof = 0; roof < c.roofs; roof++) {
                    coming[roof] >>= 1;
                }
            }
        }

        private void fillComing(City c) {
            Arrays.fill(coming, 0);
            for (int roof = 0; roof < c.roofs; roof++) {
                for (int ago = 1; ago <= TOP; ago++) {
                    int left = c.heightAt(roof, -ago) - ago;
                    if (left >= 0) {
                        coming[c.goalAt(roof, -ago)] |= 1 << left;
                    }
                }
            }
        }

        private void launch(City c, int roof, int beat) {
            int height = c.heightAt(roof, beat);
            if (height < c.gustFrom || draw() >= c.odds) {
                coming[c.goalAt(roof, beat)] |= 1 << height;
                return;
            }
            if (drops == 0) {
                dropBeat = beat;
                dropRoof = roof;
            }
            drops++;
        }

        private int draw() {
            x = 1103515245 * x + 12345 & LOW_BITS;
            return x / 65536 % 100;
        }
    }

    /** Rows of numbers. */
    private static final class Slots {
        static final int MOST = 60;
        private static final int NUMBER = 4;

        final int[] widths = new int[NUMBER];
        /** NONE: it has nothing. */
        final int[] sizes = new int[NUMBER];
        private final long[] numbers = new long[NUMBER * MOST];

        Slots() {
            Arrays.fill(sizes, NONE);
        }

        boolean isSlot(int slot) {
            return slot >= 0 && slot < NUMBER;
        }

        boolean isFilled(int slot) {
            return isSlot(slot) && sizes[slot] != NONE;
        }

        int filled() {
            int number = 0;
            for (int slot = 0; slot < NUMBER; slot++) {
                if (isFilled(slot)) {
                    number++;
                }
            }
            return number;
        }

        void open(int slot, int width, int n) {
            if (isSlot(slot) && n >= 0 && n <= MOST) {
                widths[slot] = width;
                sizes[slot] = n;
                for (int i = 0; i < n; i++) {
                    numbers[slot * MOST + i] = 0;
                }
            }
        }

        boolean hasRun(int slot, int i, int n) {
            return isFilled(slot) && i >= 0 && n >= 0 && i <= sizes[slot] && n <= sizes[slot] - i;
        }

        void store(int slot, int i, long v) {
            if (hasRun(slot, i, 1)) {
                numbers[slot * MOST + i] = cut(widths[slot], v);
            }
        }

        private static long cut(int width, long v) {
            switch (width) {
                case 0: return (byte) v;
                case 1: return (short) v;
                case 2: return (int) v;
                default: return v;
            }
        }

        long numberAt(int slot, int i) {
            return hasRun(slot, i, 1) ? numbers[slot * MOST + i] : NONE;
        }

        void carry(int slot, int i, int to, int k, int n) {
            if (hasRun(slot, i, n) && hasRun(to, k, n)) {
                System.arraycopy(numbers, slot * MOST + i, numbers, to * MOST + k, n);
            }
        }
    }
}
