/** Terms II to IV and promises 6 to 25, 38, 39, 42 and 43 at their boundaries: rows, balls, kinds, wages. */
final class RowEdgeTests {
    public static void main(String[] args) {
        withoutACity();
        throwsAreLookedAt();
        roundsAreTheLeast();
        throwsAreSet();
        throwsAreSwapped();
        swapsAreUnfit();
        rowsAreShifted();
        itIsKeptUpOrNot();
        theFirstClashIsTold();
        rowsGoOnAheadOfZero();
        ballsComeDown();
        ballsAreFollowed();
        orbitsAreClosed();
        theLongestOrbitIsClosed();
        ballsAreTheSame();
        pairsCross();
        handsSuit();
        kindsSuit();
        wagesAreCounted();
        ballsAreCarried();
        rowsAreExchanged();
        exchangesAreUnfit();
        allGoesBackwards();
        backwardsIsRefused();
        beatsAreBusy();
        Check.close("RowEdgeTests");
    }

    /** Each call that asks about a CITY, of the object that a refusal must leave as it is. */
    private static void withoutACity() {
        Stage.refused(Stage::bare, "tosses", -2, x -> x.tosses(0, 0, 0));
        Stage.refused(Stage::bare, "period", -2, x -> x.period(0));
        Stage.refused(Stage::bare, "turn", -2, JuggledPost::turn);
        Stage.refused(Stage::bare, "set", -2, x -> x.set(0, 0, 0, 0));
        Stage.refused(Stage::bare, "swap", -2, x -> x.swap(0, 0, 1));
        Stage.refused(Stage::bare, "shift", -2, x -> x.shift(0, 0));
        Stage.refused(Stage::bare, "keeps", -2, JuggledPost::keeps);
        Stage.refused(Stage::bare, "clash", -2, x -> x.clash(0));
        Stage.refused(Stage::bare, "balls", -2, JuggledPost::balls);
        Stage.refused(Stage::bare, "lands", -2, x -> x.lands(0, 0));
        Stage.refused(Stage::bare, "air", -2, x -> x.air(0));
        Stage.refused(Stage::bare, "ball", -2, x -> x.ball(0, 0, 0, 0));
        Stage.refused(Stage::bare, "orbit", -2, x -> x.orbit(0, 0, 0));
        Stage.refused(Stage::bare, "orbits", -2, JuggledPost::orbits);
        Stage.refused(Stage::bare, "same", -2, x -> x.same(0, 0, 0, 0));
        Stage.refused(Stage::bare, "crossings", -2, x -> x.crossings(0));
        Stage.refused(Stage::bare, "suits", -2, x -> x.suits(0));
        Stage.refused(Stage::bare, "unsuited", -2, x -> x.unsuited(0));
        Stage.refused(Stage::bare, "wages", -2, x -> x.wages(0, 0));
        Stage.refused(Stage::bare, "carries", -2, x -> x.carries(0, 0));
        Stage.refused(Stage::bare, "exchange", -2, x -> x.exchange(0, 0, 1, 0));
        Stage.refused(Stage::bare, "backwards", -2, JuggledPost::backwards);
        Stage.refused(Stage::bare, "busiest", -2, x -> x.busiest(0));
        Stage.refused(Stage::bare, "silent", -2, x -> x.silent(0));
    }

    private static void row(JuggledPost x, int roof, int... throwsDue) {
        Check.due("period", throwsDue.length, x.period(roof));
        for (int i = 0; i < throwsDue.length; i++) {
            Check.due("throw " + i + " of " + roof, throwsDue[i], 10 * x.tosses(roof, i, 0) + x.tosses(roof, i, 1));
        }
    }

    // promises 6, 7
    private static void throwsAreLookedAt() {
        Stage.bounds("tosses of a roof", 0, 5, -2, Stage.at(5, 1), (x, v) -> x.tosses(v, 0, 0));
        Stage.bounds("tosses at a beat", 0, 99_999, -2, Stage.at(2, 1), (x, v) -> x.tosses(1, v, 1));
        Stage.bounds("tosses what", 0, 2, -2, Stage.at(3, 1), (x, v) -> x.tosses(1, 0, v));
        Stage.bounds("period of a roof", 0, 5, -2, Stage.at(3, 1), (x, v) -> x.period(v));
        JuggledPost x = Stage.made();
        int[] heights = {5, 3, 1};
        for (int beat = 99_990; beat < 100_000; beat++) {
            Check.due("the last beats", heights[beat % 3], x.tosses(0, beat, 0));
            Check.due("their hands", beat % 2, x.tosses(0, beat, 2));
            Check.due("hands of a left one", 1 - beat % 2, x.tosses(1, beat, 2));
        }
        Check.due("eight throws", 8, Check.told("roofs 1;throws 0 1 1 1 1 1 1 1 1;").period(0));
        Check.due("nothing is thrown, by which hand", 1, Check.told("roofs 1;").tosses(0, 1, 2));
        Check.due("nothing is thrown, by which hand", 0, Check.told("roofs 1;thrower 0 left;").tosses(0, 1, 2));
    }

    // promise 8
    private static void roundsAreTheLeast() {
        int[][] lengths = {{1, 1, 1}, {8, 1, 8}, {2, 4, 8}, {6, 4, 1}, {6, 8, 1}, {7, 8, 1}, {2, 3, 5}, {5, 7, 8}, {6, 6, 6}};
        int[] rounds = {1, 8, 8, 12, 24, 56, 30, 280, 6};
        for (int i = 0; i < rounds.length; i++) {
            StringBuilder text = new StringBuilder("roofs 3;");
            for (int roof = 0; roof < 3; roof++) {
                text.append("throws ").append(roof).append(" 2".repeat(lengths[i][roof])).append(";");
            }
            Check.due("turn of " + text, rounds[i], Check.told(text.toString()).turn());
        }
        String all = "roofs 6;throws 0 2 2 2 2 2;throws 1 2 2 2 2 2 2 2;throws 2 2 2 2;throws 3 2 2 2 2 2 2 2 2;throws 4 2 2;";
        JuggledPost x = Check.told(all);
        Check.due("the greatest round", 840, x.turn());
        Check.due("balls of it", 10, x.balls());
        Check.due("silent of it", 840, x.silent(5));
        Check.due("carries of it", 840, x.carries(0, 0));
        Check.due("an orbit of it", 420, x.orbit(0, 99_999, 0));
        Check.due("heights of it", 840, x.orbit(0, 1, 1));
        Check.due("a ball of it", 1, x.orbit(0, 1, 2));
        Check.due("orbits of it", 10, x.orbits());
        Check.due("one of a city without throws", 1, Check.told("roofs 6;").turn());
    }

    // promise 9
    private static void throwsAreSet() {
        Stage.bounds("set of a roof", 0, 5, -2, Stage.at(50, 14), (x, v) -> x.set(v, 0, 1, 0));
        Stage.bounds("set of a throw", 0, 2, -2, Stage.at(50, 10), (x, v) -> x.set(0, v, 1, 0));
        Stage.bounds("set of a height", 0, 9, -2, Stage.at(50, 50), (x, v) -> x.set(0, 0, v, 0));
        Stage.bounds("set to a roof", 0, 5, -2, Stage.at(32, 32), (x, v) -> x.set(1, 0, 1, v));
        for (int to = 1; to < 6; to++) {
            int other = to;
            Stage.refused("0 to another", -2, x -> x.set(0, 0, 0, other));
        }
        Stage.refused("0 to no roof", -2, x -> x.set(0, 0, 0, 6));
        Stage.refused("0 to another", -2, x -> x.set(5, 0, 0, 4));
        JuggledPost x = Stage.made();
        Check.due("9 to the last roof", 30, x.set(0, 1, 9, 5));
        row(x, 0, 50, 95, 10);
        Check.due("0 to its own", 95, x.set(0, 1, 0, 0));
        row(x, 0, 50, 0, 10);
        Check.due("1 to another", 0, x.set(0, 1, 1, 1));
        row(x, 0, 50, 11, 10);
        row(x, 1, 32, 31);
        Check.due("no longer kept up", 0, x.keeps());
        Check.due("as it was", 11, x.set(0, 1, 3, 0));
        Check.due("kept up again", 1, x.keeps());
        JuggledPost eight = Check.told("roofs 1;throws 0 1 2 3 4 5 6 7 8;");
        Check.due("the eighth", 80, eight.set(0, 7, 9, 0));
        Check.due("no ninth", -2, eight.set(0, 8, 9, 0));
        row(eight, 0, 10, 20, 30, 40, 50, 60, 70, 90);
    }

    // promise 10
    private static void throwsAreSwapped() {
        Stage.bounds("swap of i", 0, 2, -2, Stage.at(0, 0), (x, v) -> x.swap(0, v, 1));
        Stage.bounds("swap of k", 0, 2, -2, Stage.at(0, 0), (x, v) -> x.swap(0, 1, v));
        Stage.outside("swap of a roof", 0, 5, -2, (x, v) -> x.swap(v, 0, 1));
        for (int i = 0; i < 3; i++) {
            int like = i;
            Stage.refused("swap of one and the same", -2, x -> x.swap(0, like, like));
        }
        Stage.refused("a row of one throw", -2, x -> x.swap(5, 0, 1));
        Stage.refused("a row of one throw", -2, x -> x.swap(5, 0, 0));
        JuggledPost x = Check.told("roofs 6;throws 5 3 to 4 1 to 3;throws 0 3 1;");
        Check.due("swap of the last roof", 0, x.swap(5, 0, 1));
        row(x, 5, 23, 24);
        Check.due("swap of the first roof", 0, x.swap(0, 1, 0));
        row(x, 0, 20, 20);
        x = Check.told("roofs 2;throws 0 9 to 1 1 1 1 1 1 1 2;");
        Check.due("of the first and the last", 0, x.swap(0, 7, 0));
        row(x, 0, 90, 10, 10, 10, 10, 10, 10, 21);
    }

    private static void unfit(String row, int i, int k) {
        String text = "roofs 2;throws 0 " + row + ";throws 1 " + row.replaceAll("\\d", "1") + ";";
        Stage.refused(() -> Stage.made(text), "swap in " + row, -5, x -> x.swap(0, i, k));
        Stage.refused(() -> Stage.made(text), "swap in " + row, -5, x -> x.swap(0, k, i));
    }

    private static void fit(String row, int i, int k, int... due) {
        JuggledPost x = Check.told("roofs 2;throws 0 " + row + ";");
        Check.due("swap in " + row, 0, x.swap(0, i, k));
        row(x, 0, due);
        x = Check.told("roofs 2;throws 0 " + row + ";");
        Check.due("swap in " + row, 0, x.swap(0, k, i));
        row(x, 0, due);
    }

    // promise 10: -5: one would be below 1 or above 9, or is 0
    private static void swapsAreUnfit() {
        fit("2 2", 0, 1, 30, 10);
        unfit("1 2", 0, 1);
        fit("3 to 1 9 1", 0, 2, 30, 90, 11);
        unfit("2 to 1 9 1", 0, 2);
        fit("5 8", 0, 1, 90, 40);
        unfit("5 9", 0, 1);
        fit("8 1 1 1 1 1 1 2 to 1", 0, 7, 91, 10, 10, 10, 10, 10, 10, 10);
        unfit("8 1 1 1 1 1 1 3", 0, 7);
        unfit("7 1 1 1 1 1 1 2", 0, 7);
        unfit("3 0", 0, 1);
        unfit("0 3", 0, 1);
        unfit("0 0", 0, 1);
        unfit("3 1 0", 2, 0);
        // both apply: no two throws, and one is 0
        Stage.refused(() -> Stage.made("roofs 1;throws 0 0 1;"), "one and the same, 0", -2, x -> x.swap(0, 0, 0));
        Stage.refused(() -> Stage.made("roofs 1;throws 0 0 1;"), "no such, and 0", -2, x -> x.swap(0, 0, 2));
    }

    // promise 11
    private static void rowsAreShifted() {
        Stage.bounds("shift by n", 0, 2, -2, Stage.at(3, 3), (x, v) -> x.shift(0, v));
        Stage.bounds("shift of a roof", 0, 5, -2, Stage.at(3, 1), (x, v) -> x.shift(v, 0));
        Stage.refused("shift by nothing", 3, x -> x.shift(0, 0));
        Stage.refused("shift of one throw", 1, x -> x.shift(5, 0));
        Stage.refused("shift of one throw", -2, x -> x.shift(5, 1));
        JuggledPost x = Stage.made();
        Check.due("shift", 3, x.shift(0, 2));
        row(x, 0, 10, 50, 30);
        row(x, 1, 32, 31);
        Check.due("shift", 2, x.shift(1, 1));
        row(x, 1, 31, 32);
        Check.due("shift back", 2, x.shift(1, 1));
        row(x, 1, 32, 31);
        x = Check.told("roofs 2;throws 1 1 to 0 2 3 4 5 6 7 8;");
        Check.due("by seven", 8, x.shift(1, 7));
        row(x, 1, 81, 10, 21, 31, 41, 51, 61, 71);
        Check.due("not by eight", -2, x.shift(1, 8));
    }

    // promises 12, 14, 16, 19: NONE where it can't be kept up
    private static void itIsKeptUpOrNot() {
        Stage.asked("keeps", 1, JuggledPost::keeps);
        Stage.asked("balls", 20, JuggledPost::balls);
        Stage.asked("orbits", 11, JuggledPost::orbits);
        Stage.refused(Stage::broken, "keeps", 0, JuggledPost::keeps);
        Stage.refused(Stage::broken, "balls", -1, JuggledPost::balls);
        Stage.refused(Stage::broken, "orbits", -1, JuggledPost::orbits);
        Stage.refused(Stage::broken, "air", -1, x -> x.air(0));
        Stage.refused(Stage::broken, "air", -1, x -> x.air(99_999));
        Stage.refused(Stage::broken, "no beat, not kept up", -2, x -> x.air(-1));
        Stage.refused(Stage::broken, "no beat, not kept up", -2, x -> x.air(100_000));
        Stage.bounds("air behind a beat", 0, 99_999, -2, Stage.at(20, 20), (x, v) -> x.air(v));
        JuggledPost none = Check.told("roofs 6;");
        Check.due("nothing is kept up", 1, none.keeps());
        Check.due("no balls", 0, none.balls());
        Check.due("no orbits", 0, none.orbits());
        Check.due("nothing in the air", 0, none.air(0));
        JuggledPost most = Check.told("roofs 6;throws 0 9;throws 1 9;throws 2 9;throws 3 9;throws 4 9;throws 5 9;");
        Check.due("most balls", 54, most.balls());
        Check.due("most balls", 54, most.air(0));
        Check.due("one orbit a roof", 6, most.orbits());
        // down at a BEAT is not in the air behind it, but thrown again
        JuggledPost two = Check.told("roofs 1;throws 0 2 0;");
        Check.due("thrown in it", 1, two.air(0));
        Check.due("not down yet", 1, two.air(1));
        Check.due("down and thrown", 1, two.air(2));
    }

    private static void clashes(String text, int beat, int roof, int balls) {
        JuggledPost x = Check.told(text);
        Check.due("keeps " + text, 0, x.keeps());
        Check.due("clash beat " + text, beat, x.clash(0));
        Check.due("clash roof " + text, roof, x.clash(1));
        Check.due("clash balls " + text, balls, x.clash(2));
        Check.due("balls " + text, -1, x.balls());
    }

    // promise 13
    private static void theFirstClashIsTold() {
        Stage.outside("clash what, kept up", 0, 2, -2, (x, v) -> x.clash(v));
        for (int what = 0; what <= 2; what++) {
            int asked = what;
            Stage.asked("no clash", -1, x -> x.clash(asked));
        }
        for (int what : new int[] {-1, 3, Integer.MIN_VALUE, Integer.MAX_VALUE}) {
            Stage.refused(Stage::broken, "no such what, not kept up", -2, x -> x.clash(what));
            Stage.refused(Stage::bare, "no such what, no city", -2, x -> x.clash(what));
        }
        // none where one is thrown; one where none is; two
        clashes("roofs 1;throws 0 1 0;", 0, 0, 0);
        clashes("roofs 1;throws 0 0 1;", 0, 0, 1);
        clashes("roofs 1;throws 0 2 1;", 0, 0, 2);
        // at the last BEAT of a ROUND alone, and of its two ROOFS the lesser
        clashes("roofs 2;throws 0 1;throws 1 1 to 0 1;", 1, 0, 2);
        clashes("roofs 2;throws 1 1;throws 0 1 to 1 1;", 1, 0, 0);
        clashes("roofs 6;throws 4 1;throws 5 1 to 4 1;", 1, 4, 2);
        // BEAT goes ahead of ROOF
        clashes("roofs 2;throws 0 1 2 0;throws 1 1 0;", 0, 1, 0);
        clashes("roofs 6;throws 0 9;throws 1 9 to 0;throws 2 9 to 0;throws 3 9 to 0;throws 4 9 to 0;throws 5 9 to 0;", 0, 0, 6);
    }

    // II: rows go on round to BEATS ahead of 0, too
    private static void rowsGoOnAheadOfZero() {
        JuggledPost x = Check.told("roofs 1;throws 0 9;");
        for (int beat = 0; beat < 10; beat++) {
            Check.due("from beat " + (beat - 9), 90, x.lands(0, beat));
        }
        Check.due("nine behind beat 0", 9, x.air(0));
        // 9 and 1 of a row of two: BEAT 0 has the 1 of BEAT -1, BEAT 1 the 9 of BEAT -8
        x = Check.told("roofs 2;throws 0 9 to 1 1;throws 1 1 9 to 0;");
        Check.due("keeps", 0, x.keeps());
        x = Check.told("roofs 2;throws 0 9 to 1 1;throws 1 9 to 0 1;");
        Check.due("keeps", 1, x.keeps());
        Check.due("from beat -1", 10, x.lands(0, 0));
        Check.due("from beat -8", 91, x.lands(0, 1));
        Check.due("from beat -8", 90, x.lands(1, 1));
        // rows of seven: BEAT -9 is throw 5, BEAT -8 throw 6, BEAT -2 throw 5
        x = Check.told("roofs 1;throws 0 0 0 0 0 0 7 0;");
        Check.due("keeps", 1, x.keeps());
        Check.due("from beat -2", 70, x.lands(0, 5));
        Check.due("nothing", -1, x.lands(0, 4));
        x = Check.told("roofs 1;throws 0 0 0 1 1 1 9 2;");
        Check.due("a clash at beat 0", 0, x.clash(0));
        Check.due("of what was thrown at beat -9", 1, x.clash(2));
        x = Check.told("roofs 1;throws 0 1 1 1 1 1 9 7;");
        Check.due("keeps", 1, x.keeps());
        Check.due("from beat -9", 90, x.lands(0, 0));
        Check.due("from beat 0", 10, x.lands(0, 1));
        Check.due("from beat -1", 70, x.lands(0, 6));
    }

    // promise 15
    private static void ballsComeDown() {
        Stage.bounds("lands on a roof", 0, 5, -2, Stage.at(10, 14), (x, v) -> x.lands(v, 0));
        Stage.bounds("lands at a beat", 0, 99_999, -2, Stage.at(32, 31), (x, v) -> x.lands(2, v));
        Stage.refused(Stage::broken, "lands, not kept up", -1, x -> x.lands(3, 0));
        Stage.refused(Stage::broken, "no roof, not kept up", -2, x -> x.lands(6, 0));
        Stage.refused(Stage::broken, "no roof, not kept up", -2, x -> x.lands(-1, 0));
        Stage.refused(Stage::broken, "no beat, not kept up", -2, x -> x.lands(0, 100_000));
        Stage.refused(Stage::broken, "no beat, not kept up", -2, x -> x.lands(0, -1));
        JuggledPost x = Check.told("roofs 2;throws 0 0 2;");
        Check.due("nothing does", -1, x.lands(0, 0));
        Check.due("something does", 20, x.lands(0, 1));
        Check.due("nothing does", -1, x.lands(0, 99_998));
        Check.due("nothing ever does", -1, x.lands(1, 99_999));
        // to whom it goes is told by the throw that comes down, not by another of the row
        x = Check.told("roofs 2;throws 0 1 to 1 2 3;throws 1 2 3 to 0 1;");
        Check.due("keeps", 1, x.keeps());
        int[] due = {20, 11, 31, 10, 30, 21};
        for (int i = 0; i < 6; i++) {
            Check.due("lands", due[i], x.lands(i % 2, i / 2));
        }
    }

    // promise 17
    private static void ballsAreFollowed() {
        Stage.bounds("ball of a roof", 0, 5, -2, Stage.at(5, 1), (x, v) -> x.ball(v, 0, 1, 1));
        Stage.bounds("ball at a beat", 0, 99_999, -2, Stage.at(9, 100_008), (x, v) -> x.ball(3, v, 1, 1));
        Stage.bounds("ball behind throws", 0, 200, -2, Stage.at(0, 1800), (x, v) -> x.ball(3, 0, v, 1));
        Stage.bounds("ball what", 0, 1, -2, Stage.at(2, 3), (x, v) -> x.ball(1, 0, 1, v));
        Stage.asked("here", 1, x -> x.ball(1, 7, 0, 0));
        Stage.asked("now", 7, x -> x.ball(1, 7, 0, 1));
        Stage.asked("as late as can be", 99_999 + 1800, x -> x.ball(3, 99_999, 200, 1));
        Stage.asked("thrown on two hundred times", 4, x -> x.ball(4, 99_999, 200, 0));
        Stage.refused(Stage::broken, "not kept up", -1, x -> x.ball(3, 0, 0, 0));
        Stage.refused(Stage::broken, "no n, not kept up", -2, x -> x.ball(3, 0, 201, 0));
        Stage.refused(Stage::broken, "no what, not kept up", -2, x -> x.ball(3, 0, 0, 2));
        JuggledPost x = Check.told("roofs 1;throws 0 2 0;");
        Check.due("nothing is thrown", -1, x.ball(0, 1, 0, 0));
        Check.due("nothing is thrown", -1, x.ball(0, 1, 0, 1));
        Check.due("nothing is thrown", -1, x.ball(0, 99_999, 200, 1));
        Check.due("nothing is thrown, no n", -2, x.ball(0, 1, -1, 0));
        Check.due("nothing is thrown, no what", -2, x.ball(0, 1, 0, -1));
        Check.due("thrown", 99_998, x.ball(0, 99_998, 0, 1));
    }

    // III, promise 18
    private static void orbitsAreClosed() {
        Stage.bounds("orbit of a roof", 0, 5, -2, Stage.at(2, 6), (x, v) -> x.orbit(v, 0, 0));
        Stage.bounds("orbit at a beat", 0, 99_999, -2, Stage.at(6, 6), (x, v) -> x.orbit(0, v, 1));
        Stage.bounds("orbit what", 0, 3, -2, Stage.at(4, 6), (x, v) -> x.orbit(1, 0, v));
        Stage.asked("heights", 12, x -> x.orbit(1, 0, 1));
        Stage.asked("balls", 2, x -> x.orbit(1, 0, 2));
        Stage.asked("an orbit of the last roof", 48, x -> x.orbit(5, 3, 3));
        Stage.refused(Stage::broken, "not kept up", -1, x -> x.orbit(3, 0, 0));
        Stage.refused(Stage::broken, "no what, not kept up", -2, x -> x.orbit(3, 0, 4));
        JuggledPost x = Check.told("roofs 1;throws 0 2 0;");
        for (int what = 0; what <= 3; what++) {
            Check.due("of height 0 there is none", -1, x.orbit(0, 1, what));
            Check.due("of height 0 there is none", -1, x.orbit(0, 99_999, what));
        }
        Check.due("of height 0, no what", -2, x.orbit(0, 1, 4));
        Check.due("of height 0, no what", -2, x.orbit(0, 1, -1));
        Check.due("one throw", 1, x.orbit(0, 0, 0));
        Check.due("throws of height 0 are no orbit", 1, x.orbits());
        JuggledPost one = Check.told("roofs 1;throws 0 9;");
        Check.due("one throw", 1, one.orbit(0, 0, 0));
        Check.due("nine heights", 9, one.orbit(0, 99_999, 1));
        Check.due("nine balls", 9, one.orbit(0, 0, 2));
    }

    // II, III: all throws of the greatest ROUND in one ORBIT: once round the six ROOFS takes 11 BEATS, 11 and 840 share nothing
    private static void theLongestOrbitIsClosed() {
        JuggledPost x = Check.told("roofs 6;throws 0" + " 1 to 1".repeat(8) + ";throws 1" + " 1 to 2".repeat(7) + ";throws 2"
            + " 1 to 3".repeat(5) + ";throws 3" + " 1 to 4".repeat(3) + ";throws 4 1 to 5;throws 5 6 to 0;letter 0 at 9999 to 5;");
        Check.due("turn", 840, x.turn());
        Check.due("balls", 11, x.balls());
        Check.due("one orbit", 1, x.orbits());
        Check.due("of all throws", 5040, x.orbit(0, 0, 0));
        Check.due("of all throws", 5040, x.orbit(5, 99_999, 0));
        Check.due("of all heights", 11 * 840, x.orbit(3, 839, 1));
        Check.due("of all balls", 11, x.orbit(3, 840, 2));
        Check.due("of all roofs", 63, x.orbit(4, 1, 3));
        Check.due("once round", 1, x.same(0, 0, 0, 11));
        Check.due("not a beat sooner", 0, x.same(0, 0, 0, 10));
        Check.due("to that throw again", 1, x.same(0, 0, 0, 9240));
        Check.due("many times round", 1, x.same(0, 0, 5, 99_995));
        Check.due("behind two hundred throws", 11 * 33 + 2, x.ball(0, 0, 200, 1));
        Check.due("alone", 10_004, x.alone(0));
        Check.due("carries", 840, x.carries(5, 0));
        // all six ROOFS with an ORBIT of their own for each ball
        x = Check.told("roofs 6;throws 0" + " 1".repeat(8) + ";throws 1" + " 1".repeat(7) + ";throws 2" + " 1".repeat(5)
            + ";throws 3" + " 1".repeat(3) + ";throws 4 9;throws 5 9;");
        Check.due("turn", 840, x.turn());
        Check.due("of a 9 three, for 9 and 840 share 3", 4 + 3 + 3, x.orbits());
        // of a ROUND of one BEAT
        x = Check.told("roofs 6;throws 0 1 to 1;throws 1 1 to 0;throws 2 1;throws 3 2 to 4;throws 4 3 to 5;throws 5 1 to 3;");
        Check.due("turn", 1, x.turn());
        Check.due("orbits", 3, x.orbits());
        Check.due("of one throw", 1, x.orbit(2, 0, 1));
        Check.due("the same at each beat", 1, x.same(2, 0, 2, 99_999));
        Check.due("the same at each beat", 1, x.same(2, 4, 2, 5));
    }

    // promise 20
    private static void ballsAreTheSame() {
        Stage.bounds("same of a roof", 0, 5, -2, Stage.at(1, 0), (x, v) -> x.same(v, 0, 0, 6));
        Stage.bounds("same at a beat", 0, 99_999, -2, Stage.at(1, 1), (x, v) -> x.same(3, v, 3, 99_999));
        Stage.bounds("same of another", 0, 5, -2, Stage.at(0, 1), (x, v) -> x.same(4, 0, v, 1));
        Stage.bounds("same at a later beat", 0, 99_999, -2, Stage.at(1, 1), (x, v) -> x.same(3, 0, 3, v));
        Stage.asked("at that beat", 1, x -> x.same(3, 5, 3, 5));
        Stage.asked("at an earlier one", 0, x -> x.same(3, 9, 3, 0));
        Stage.asked("at an earlier one", 0, x -> x.same(3, 99_999, 3, 99_990));
        Stage.asked("one ahead", 0, x -> x.same(3, 0, 3, 8));
        Stage.asked("one behind", 0, x -> x.same(3, 0, 3, 10));
        Stage.asked("by another at that beat", 0, x -> x.same(3, 5, 2, 5));
        Stage.refused(Stage::broken, "not kept up", -1, x -> x.same(3, 0, 3, 0));
        Stage.refused(Stage::broken, "not kept up, earlier", -1, x -> x.same(3, 9, 3, 0));
        Stage.refused(Stage::broken, "no other, not kept up", -2, x -> x.same(3, 0, 6, 0));
        Stage.refused(Stage::broken, "no later, not kept up", -2, x -> x.same(3, 0, 3, 100_000));
        JuggledPost x = Check.told("roofs 1;throws 0 2 0;");
        Check.due("nothing is thrown at the first", -1, x.same(0, 1, 0, 2));
        Check.due("nothing is thrown at the later", 0, x.same(0, 0, 0, 1));
        Check.due("nothing is thrown at the first, no later", -2, x.same(0, 1, 0, 100_000));
    }

    // IV, promise 21
    private static void pairsCross() {
        Stage.bounds("crossings what", 0, 3, -2, Stage.at(9, 2), (x, v) -> x.crossings(v));
        Stage.asked("the first beat", 0, x -> x.crossings(1));
        Stage.asked("the lesser roof", 1, x -> x.crossings(2));
        // it need not be kept up
        Stage.refused(Stage::broken, "crossings, not kept up", 9, x -> x.crossings(0));
        String calm = "roofs 3;throws 0 3 to 1;throws 1 3 to 2;throws 2 3 to 0;cross 0 1;cross 1 2;cross 0 2;";
        int[] due = {0, -1, -1, -1};
        for (int what = 0; what <= 3; what++) {
            int asked = what;
            Stage.refused(() -> Stage.made(calm), "no crossing", due[what], x -> x.crossings(asked));
        }
        Stage.refused(() -> Stage.made(calm), "no crossing, no what", -2, x -> x.crossings(4));
        Stage.refused(() -> Stage.made(calm), "no crossing, no what", -2, x -> x.crossings(-1));
        Stage.refused(Stage::bare, "no city, no what", -2, x -> x.crossings(4));
        Check.due("told twice as one", 1, Check.told("roofs 2;throws 0 3 to 1;throws 1 3 to 0;cross 0 1;cross 1 0;").crossings(0));
        Check.due("not told", 0, Check.told("roofs 2;throws 0 3 to 1;throws 1 3 to 0;").crossings(0));
        Check.due("one throws to itself", 0, Check.told("roofs 2;throws 0 3 to 1;throws 1 3;cross 0 1;").crossings(0));
        // rows of 8 and 7 that meet at the last BEAT of a ROUND alone
        JuggledPost x = Check.told("roofs 6;throws 5 1 1 1 1 1 1 1 1 to 4;throws 4 1 1 1 1 1 1 1 to 5;cross 5 4;");
        Check.due("one", 1, x.crossings(0));
        Check.due("at the last beat", 55, x.crossings(1));
        Check.due("the lesser", 4, x.crossings(2));
        Check.due("the greater", 5, x.crossings(3));
        x = Check.told("roofs 6;throws 2 1 1 1 to 5;throws 5 1 1 1 1 1 1 1 1 to 2;cross 5 2;");
        Check.due("at the last beat", 23, x.crossings(1));
        Check.due("the lesser", 2, x.crossings(2));
        Check.due("the greater", 5, x.crossings(3));
    }

    // IV, promises 22, 23
    private static void handsSuit() {
        Stage.bounds("suits of a roof", 0, 5, -2, Stage.at(1, 0), (x, v) -> x.suits(v));
        Stage.bounds("unsuited of a roof", 0, 5, -2, Stage.at(-1, 1), (x, v) -> x.unsuited(v));
        // the last BEAT of two ROUNDS: of one throw it is BEAT 1, of three BEAT 5, of seven BEAT 13
        Check.due("of one throw", 1, Check.told("roofs 2;throws 0 3 to 1;").unsuited(0));
        Check.due("of three throws", 5, Check.told("roofs 2;throws 0 3 3 3 to 1;").unsuited(0));
        Check.due("the first of a round", 3, Check.told("roofs 2;throws 0 3 to 1 3 3;").unsuited(0));
        Check.due("the second of a round", 1, Check.told("roofs 2;throws 0 3 3 to 1 3;").unsuited(0));
        Check.due("the last of two rounds", 13, Check.told("roofs 2;throws 0 3 3 3 3 3 3 3 to 1;").unsuited(0));
        Check.due("the last of two rounds", 0, Check.told("roofs 2;throws 0 3 3 3 3 3 3 3 to 1;").suits(0));
        Check.due("of eight none, at even beats", -1,
            Check.told("roofs 2;throws 0 3 to 1 3 3 to 1 3 3 to 1 3 3 to 1 3;").unsuited(0));
        Check.due("of eight the last", 7, Check.told("roofs 2;throws 0 3 3 3 3 3 3 3 3 to 1;").unsuited(0));
        // whether it can be kept up is not asked
        Stage.refused(Stage::broken, "suits, not kept up", 1, x -> x.suits(0));
        Stage.refused(Stage::broken, "unsuited, not kept up", -1, x -> x.unsuited(0));
        String left = "roofs 2;thrower 0 left;throws 0 3 to 1 3;throws 1 3 3 to 0;thrower 1 left;";
        Check.due("a left one by the left hand", 1, Check.told(left).suits(0));
        Check.due("a left one by the right hand", 1, Check.told(left).unsuited(1));
    }

    // IV: slow above 5, blind 1 or 2, learner unlike
    private static void kindsSuit() {
        for (int height = 0; height <= 9; height++) {
            JuggledPost slow = Check.told("roofs 2;thrower 0 slow;throws 0 1 " + height + ";");
            Check.due("slow at " + height, height > 5 ? 1 : -1, slow.unsuited(0));
            Check.due("slow at " + height, height > 5 ? 0 : 1, slow.suits(0));
            JuggledPost blind = Check.told("roofs 2;thrower 0 blind;throws 0 9 " + height + ";");
            Check.due("blind to itself at " + height, height == 1 || height == 2 ? 1 : -1, blind.unsuited(0));
            if (height > 0) {
                blind = Check.told("roofs 2;thrower 0 blind;throws 0 9 to 1;throws 1 9 9 9 " + height + " to 0;");
                Check.due("blind from another at " + height, height < 3 ? 3 : -1, blind.unsuited(0));
                Check.due("the other is plain", 3, blind.unsuited(1));
            }
            JuggledPost learner = Check.told("roofs 2;thrower 0 learner;throws 0 0 4 " + height + ";");
            Check.due("learner at " + height, height == 0 || height == 4 ? -1 : 2, learner.unsuited(0));
        }
        Check.due("slow by the left hand", 1, Check.told("roofs 2;thrower 0 slow;throws 0 5 to 1;").unsuited(0));
        Check.due("learner by the left hand", 1, Check.told("roofs 2;thrower 0 learner;throws 0 5 to 1;").unsuited(0));
        Check.due("learner, the first is the least", 1, Check.told("roofs 2;thrower 0 learner;throws 0 1 2;").unsuited(0));
        Check.due("learner of nothing", 1, Check.told("roofs 2;thrower 0 learner;throws 0 0 0;").suits(0));
        Check.due("learner, the first is other", 1, Check.told("roofs 2;thrower 0 learner;throws 0 3 4 4;").unsuited(0));
        Check.due("plain above 5", 1, Check.told("roofs 2;throws 0 9 1;").suits(0));
    }

    // promise 24
    private static void wagesAreCounted() {
        Stage.bounds("wages of a roof", 0, 5, -2, Stage.at(25, 2), (x, v) -> x.wages(v, 1));
        Stage.bounds("wages for beats", 0, 10_000, -2, Stage.at(0, 3333 * 35 + 25), (x, v) -> x.wages(0, v));
        long sum = 0;
        int[] due = {25, 9, 1};
        JuggledPost x = Stage.made();
        for (int n = 0; n <= 12; n++) {
            Check.due("wages for " + n, sum, x.wages(0, n));
            sum += due[n % 3];
        }
        Check.due("the greatest", 1_620_000, Check.told("roofs 2;throws 0 9 to 1;").wages(0, 10_000));
        Check.due("to another twice", 18, Check.told("roofs 2;throws 0 3 to 1;").wages(0, 1));
        Check.due("to itself once", 9, Check.told("roofs 2;throws 0 3 to 0;").wages(0, 1));
        Check.due("for nothing", 0, Check.told("roofs 2;").wages(0, 10_000));
        Stage.refused(Stage::broken, "wages, not kept up", 16, y -> y.wages(0, 1));
    }

    // promise 25
    private static void ballsAreCarried() {
        Stage.bounds("carries from", 0, 5, -2, Stage.at(0, 6), (x, v) -> x.carries(v, 4));
        Stage.bounds("carries to", 0, 5, -2, Stage.at(0, 6), (x, v) -> x.carries(4, v));
        Stage.asked("to itself", 6, x -> x.carries(0, 0));
        Stage.asked("half of them", 3, x -> x.carries(1, 2));
        Stage.refused(Stage::broken, "carries, not kept up", 6, x -> x.carries(0, 0));
        Check.due("height 0 carries nothing", 1, Check.told("roofs 2;throws 0 0 2;").carries(0, 0));
        Check.due("height 0 carries nothing", 0, Check.told("roofs 2;throws 0 0 2;").carries(1, 1));
    }

    // promise 38
    private static void rowsAreExchanged() {
        Stage.bounds("exchange of i", 0, 1, -2, Stage.at(0, 0), (x, v) -> x.exchange(1, v, 2, 0));
        Stage.bounds("exchange of k", 0, 1, -2, Stage.at(0, 0), (x, v) -> x.exchange(1, 1, 2, v));
        Stage.outside("exchange of a roof", 0, 5, -2, (x, v) -> x.exchange(v, 0, 3, 0));
        Stage.outside("exchange of another", 0, 5, -2, (x, v) -> x.exchange(3, 0, v, 0));
        Stage.refused("one roof", -2, x -> x.exchange(1, 0, 1, 1));
        Stage.refused("one roof, one throw", -2, x -> x.exchange(1, 0, 1, 0));
        JuggledPost x = Stage.made();
        Check.due("of the first roof and the last", 0, Check.told("roofs 6;throws 0 2;throws 5 3;").exchange(0, 0, 5, 0));
        Check.due("exchange", 0, x.exchange(3, 0, 5, 0));
        row(x, 3, 14);
        row(x, 5, 93);
        Check.due("kept up still", 1, x.keeps());
        Check.due("back again", 0, x.exchange(5, 0, 3, 0));
        Stage.alike("back again", Stage.made(), x);
    }

    private static void unfitPair(String row, String other, int i, int k) {
        String text = "roofs 3;throws 0 " + row + ";throws 1 " + other + ";";
        Stage.refused(() -> Stage.made(text), "exchange " + row + " and " + other, -5, x -> x.exchange(0, i, 1, k));
        Stage.refused(() -> Stage.made(text), "exchange " + row + " and " + other, -5, x -> x.exchange(1, k, 0, i));
    }

    private static void fitPair(String row, String other, int i, int k, int mine, int theirs) {
        JuggledPost x = Check.told("roofs 3;throws 0 " + row + ";throws 1 " + other + ";");
        Check.due("exchange " + row + " and " + other, 0, x.exchange(0, i, 1, k));
        Check.due("mine", mine, 10 * x.tosses(0, i, 0) + x.tosses(0, i, 1));
        Check.due("theirs", theirs, 10 * x.tosses(1, k, 0) + x.tosses(1, k, 1));
    }

    // promise 38: -5: not so many throws, a HEIGHT would be below 1 or above 9, or is 0
    private static void exchangesAreUnfit() {
        fitPair("2 1", "1 1 to 2", 0, 1, 22, 10);
        unfitPair("1 1", "1 1 to 2", 0, 1);
        fitPair("2 1", "1 8", 0, 1, 91, 10);
        unfitPair("2 1", "1 9", 0, 1);
        unfitPair("3 1", "1 0", 0, 1);
        unfitPair("3", "0", 0, 0);
        unfitPair("0", "3", 0, 0);
        fitPair("9", "1 to 2", 0, 0, 12, 90);
        fitPair("8 1 1 1 1 1 1 1", "1 1 1 1 1 1 1 2", 0, 7, 91, 10);
        unfitPair("7 1 1 1 1 1 1 1", "1 1 1 1 1 1 1 2", 0, 7);
        unfitPair("8 1 1 1 1 1 1 1", "1 1 1 1 1 1 1 3", 0, 7);
        unfitPair("3 3", "3", 0, 0);
        unfitPair("3 3", "3 3 3", 0, 0);
        unfitPair("3 3 3 3 3 3 3 3", "3 3 3 3 3 3 3", 1, 1);
        // both apply: there are none such, and not so many throws
        Stage.refused("no throw, not so many", -2, x -> x.exchange(0, 3, 1, 0));
        Stage.refused("no throw, not so many", -2, x -> x.exchange(0, 0, 1, 2));
        Stage.refused("no roof, not so many", -2, x -> x.exchange(0, 0, 6, 0));
        Stage.refused("not so many", -5, x -> x.exchange(0, 0, 1, 0));
    }

    // promise 39
    private static void allGoesBackwards() {
        JuggledPost x = Stage.made();
        Check.due("backwards", 6, x.backwards());
        for (int roof = 0; roof < 6; roof++) {
            Check.due("rows of a round", 6, x.period(roof));
        }
        row(x, 0, 10, 50, 30, 10, 50, 30);
        row(x, 3, 93, 93, 93, 93, 93, 93);
        row(x, 4, 15, 15, 15, 15, 15, 15);
        // on ROOF 2 at even BEATS its own comes down, at odd ones that of ROOF 1
        row(x, 2, 32, 31, 32, 31, 32, 31);
        Check.due("kept up", 1, x.keeps());
        Check.due("as many balls", 20, x.balls());
        Check.due("letters stay", 3, x.count(1));
        Check.due("and back", 6, x.backwards());
        row(x, 0, 50, 30, 10, 50, 30, 10);
        row(x, 2, 31, 32, 31, 32, 31, 32);
        // throw 0 is what comes down at BEAT ROUND, throw i at BEAT ROUND less i
        x = Check.told("roofs 1;throws 0 4 0 4 0;");
        Check.due("backwards", 4, x.backwards());
        row(x, 0, 40, 0, 40, 0);
        x = Check.told("roofs 2;throws 0 0 2;throws 1 1;");
        Check.due("0 where nothing does", 2, x.backwards());
        row(x, 0, 0, 20);
        row(x, 1, 11, 11);
        x = Check.told("roofs 2;");
        Check.due("nothing at all", 1, x.backwards());
        row(x, 1, 1);
    }

    // promise 39: -5: a ROUND is above 8; NONE, and nothing happens
    private static void backwardsIsRefused() {
        JuggledPost x = Check.told("roofs 3;throws 0 3 3 3 3 3 3 3 3;throws 1 2 2 2 2;throws 2 1 1;");
        Check.due("a round of eight", 8, x.backwards());
        row(x, 2, 12, 12, 12, 12, 12, 12, 12, 12);
        x = Check.told("roofs 1;throws 0 1 1 1 1 1 9 7;");
        Check.due("a round of seven", 7, x.backwards());
        row(x, 0, 90, 70, 10, 10, 10, 10, 10);
        String[] above = {"roofs 2;throws 0 3 3;throws 1 3 3 3 3 3;", "roofs 2;throws 0 3 3 3;throws 1 3 3 3 3;",
            "roofs 3;throws 0 2 2 2 2 2;throws 1 2 2 2 2 2 2 2;throws 2 3 3 3 3 3 3 3 3;"};
        for (String text : above) {
            Stage.refused(() -> Stage.made(text), "a round above 8", -5, JuggledPost::backwards);
        }
        Stage.refused(Stage::broken, "not kept up", -1, JuggledPost::backwards);
        String both = "roofs 2;throws 0 3 2;throws 1 3 3 3 3 3;";
        Stage.refused(() -> Stage.made(both), "not kept up, and above 8", -1, JuggledPost::backwards);
    }

    // promises 42, 43
    private static void beatsAreBusy() {
        Stage.bounds("busiest what", 0, 1, -2, Stage.at(0, 6), (x, v) -> x.busiest(v));
        Stage.bounds("silent of a roof", 0, 5, -2, Stage.at(0, 0), (x, v) -> x.silent(v));
        Stage.refused(Stage::broken, "busiest, not kept up", 6, x -> x.busiest(1));
        Stage.refused(Stage::bare, "no city, no what", -2, x -> x.busiest(2));
        JuggledPost x = Check.told("roofs 6;throws 0 0 0 0 0 0 0 0 1;throws 5 0 0 0 0 0 0 1;");
        Check.due("at the last beat of a round", 55, x.busiest(0));
        Check.due("two", 2, x.busiest(1));
        Check.due("silent", 49, x.silent(0));
        Check.due("silent", 48, x.silent(5));
        Check.due("silent at all", 56, x.silent(1));
        x = Check.told("roofs 6;");
        Check.due("none is busy", 0, x.busiest(0));
        Check.due("none is busy", 0, x.busiest(1));
        Check.due("silent", 1, x.silent(5));
        x = Check.told("roofs 2;throws 0 0 1 1 0;throws 1 0 1;");
        Check.due("the first of the busiest", 1, x.busiest(0));
        Check.due("two", 2, x.busiest(1));
    }
}
