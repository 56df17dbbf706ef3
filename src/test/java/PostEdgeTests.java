/** Terms V to VII and promises 26 to 37, 40, 41, 44 and 45 at their boundaries: letters, drops, changes, gusts. */
final class PostEdgeTests {
    /** Each ROOF throws once in eight BEATS, 9 high, to the next: the longest way that there can be. */
    private static final String CHAIN = "roofs 6;throws 0 9 to 1 0 0 0 0 0 0 0;throws 1 9 to 2 0 0 0 0 0 0 0;"
        + "throws 2 9 to 3 0 0 0 0 0 0 0;throws 3 9 to 4 0 0 0 0 0 0 0;throws 4 9 to 5 0 0 0 0 0 0 0;";

    public static void main(String[] args) {
        withoutACity();
        withoutLetters();
        lettersAreTold();
        lettersGoAlone();
        lettersGoSoonest();
        theLongestWayIsFound();
        wayIsToldThrowByThrow();
        readersAreTold();
        lettersLeaveLate();
        ballsAreMissed();
        missesAreCounted();
        statesAreTold();
        statesReachFar();
        rowsChange();
        changesAreTold();
        rowsGoToGround();
        rowsAreCounted();
        leastRowsAreTold();
        gustsAreBound();
        gustsOfOddsAndHeights();
        drawsAreModulo();
        yearsAreBound();
        Check.close("PostEdgeTests");
    }

    private static void withoutACity() {
        Stage.refused(Stage::bare, "letter", -2, x -> x.letter(0, 0));
        Stage.refused(Stage::bare, "alone", -2, x -> x.alone(0));
        Stage.refused(Stage::bare, "soonest", -2, x -> x.soonest(0, 0));
        Stage.refused(Stage::bare, "way", -2, x -> x.way(0, 0));
        Stage.refused(Stage::bare, "readers", -2, x -> x.readers(0, 0));
        Stage.refused(Stage::bare, "latest", -2, x -> x.latest(0, 0));
        Stage.refused(Stage::bare, "misses", -2, x -> x.misses(0, 0, 0));
        Stage.refused(Stage::bare, "missed", -2, x -> x.missed(0, 0, 0, 0));
        Stage.refused(Stage::bare, "state", -2, x -> x.state(0, 0));
        Stage.refused(Stage::bare, "change", -2, x -> x.change(0, 0, 0, 0));
        Stage.refused(Stage::bare, "changes", -2, x -> x.changes(0, 0, 0, 0, 0));
        Stage.refused(Stage::bare, "ground", -2, x -> x.ground(0, 0));
        Stage.refused(Stage::bare, "gusts", -2, x -> x.gusts(0, 0, 0));
        Stage.refused(Stage::bare, "years", -2, x -> x.years(0, 1, 0));
        // these ask about no CITY
        Stage.refused(Stage::bare, "rows", 37, x -> x.rows(3, 3, 9));
        Stage.refused(Stage::bare, "least", 9, x -> x.least(3, 3, 9, 2));
    }

    private static void withoutLetters() {
        JuggledPost x = Check.told("roofs 2;throws 0 3 to 1;throws 1 3 to 0;");
        Check.due("letter", -2, x.letter(0, 0));
        Check.due("alone", -2, x.alone(0));
        Check.due("soonest", -2, x.soonest(0, 0));
        Check.due("way", -2, x.way(0, 0));
        Check.due("readers", -2, x.readers(0, 0));
        Check.due("latest", -2, x.latest(0, 0));
    }

    // promise 26
    private static void lettersAreTold() {
        Stage.bounds("letter of", 0, 2, -2, Stage.at(0, 4), (x, v) -> x.letter(v, 0));
        Stage.bounds("letter what", 0, 2, -2, Stage.at(4, 5), (x, v) -> x.letter(2, v));
        Stage.asked("its beat", 9999, x -> x.letter(2, 1));
        JuggledPost x = Check.told("roofs 6;" + "letter 5 at 9999 to 0;".repeat(8));
        int[] due = {5, 9999, 0};
        for (int what = 0; what < 3; what++) {
            Check.due("the eighth", due[what], x.letter(7, what));
            Check.due("no ninth", -2, x.letter(8, what));
        }
    }

    // V, promise 27
    private static void lettersGoAlone() {
        Stage.bounds("alone", 0, 2, -2, Stage.at(-1, 10_000), (x, v) -> x.alone(v));
        Stage.asked("at beat 0, ahead of all", 3, x -> x.alone(1));
        for (int letter = 0; letter < 3; letter++) {
            int asked = letter;
            Stage.refused(Stage::broken, "not kept up", -1, x -> x.alone(asked));
        }
        Stage.refused(Stage::broken, "no letter, not kept up", -2, x -> x.alone(3));
        Stage.refused(Stage::broken, "no letter, not kept up", -2, x -> x.alone(-1));
        JuggledPost x = Check.told("roofs 2;throws 0 2 to 1 0;throws 1 2 to 0 0;letter 0 at 0 to 1;letter 0 at 1 to 1;"
            + "letter 0 at 9999 to 1;letter 0 at 9998 to 1;");
        Check.due("a ball", 2, x.alone(0));
        Check.due("no ball there then", -1, x.alone(1));
        Check.due("no ball there then", -1, x.alone(2));
        Check.due("a ball", 10_000, x.alone(3));
        // the ball that it is put in must come there, if only after a whole ORBIT less a throw
        x = Check.told("roofs 3;throws 0 1 to 1;throws 1 1 to 2;throws 2 1 to 0;letter 0 at 0 to 2;letter 1 at 0 to 0;");
        Check.due("by another", 2, x.alone(0));
        Check.due("by another", 2, x.alone(1));
    }

    // V, promise 28
    private static void lettersGoSoonest() {
        Stage.bounds("soonest of", 0, 2, -2, Stage.at(-1, 10_000), (x, v) -> x.soonest(v, 0));
        Stage.bounds("soonest what", 0, 2, -2, Stage.at(10_000, 0), (x, v) -> x.soonest(2, v));
        Stage.asked("throws", 1, x -> x.soonest(2, 1));
        for (int what = 0; what < 3; what++) {
            int asked = what;
            Stage.asked("it can't come there", -1, x -> x.soonest(0, asked));
        }
        Stage.refused("it can't come there, no what", -2, x -> x.soonest(0, 3));
        Stage.refused("it can't come there, no what", -2, x -> x.soonest(0, -1));
        // rows are taken as they are, whether it can be kept up or not
        Stage.refused(Stage::broken, "soonest, not kept up", 3, x -> x.soonest(1, 0));
        Stage.refused(Stage::broken, "soonest, not kept up", -1, x -> x.soonest(0, 0));
        Stage.refused(Stage::broken, "way, not kept up", 1, x -> x.way(1, 0));
        JuggledPost x = Check.told("roofs 2;throws 0 0 0 1 to 1;letter 0 at 0 to 1;letter 0 at 2 to 1;letter 0 at 3 to 1;"
            + "letter 1 at 0 to 0;");
        Check.due("height 0 takes nothing", 3, x.soonest(0, 0));
        Check.due("it waits", 2, x.soonest(0, 2));
        Check.due("at its beat", 3, x.soonest(1, 0));
        Check.due("no wait", 0, x.soonest(1, 2));
        Check.due("just too late", 6, x.soonest(2, 0));
        Check.due("it waits", 2, x.soonest(2, 2));
        Check.due("no throw at all", -1, x.soonest(3, 0));
        // comes down in the BEAT in which it is thrown on
        x = Check.told("roofs 3;throws 0 2 to 1 0 0 0;throws 1 0 0 2 to 2 0;letter 0 at 0 to 2;");
        Check.due("thrown on in that beat", 4, x.soonest(0, 0));
        Check.due("no wait", 0, x.soonest(0, 2));
        x = Check.told("roofs 3;throws 0 2 to 1 0 0 0;throws 1 0 2 to 2 0 0;letter 0 at 0 to 2;");
        Check.due("a beat too late", 7, x.soonest(0, 0));
        Check.due("it waits there", 3, x.soonest(0, 2));
    }

    // V: through all ROOFS, with the longest waits
    private static void theLongestWayIsFound() {
        for (int start : new int[] {0, 1, 8, 9, 9993, 9999}) {
            JuggledPost x = Check.told(CHAIN + "letter 0 at " + start + " to 5;");
            int first = (start + 7) / 8 * 8;
            Check.due("it is there", first + 64 + 9, x.soonest(0, 0));
            Check.due("with five throws", 5, x.soonest(0, 1));
            Check.due("it waits", first - start + 28, x.soonest(0, 2));
            for (int i = 0; i < 5; i++) {
                Check.due("throw " + i, 10 * (first + 16 * i) + i, x.way(0, i));
            }
            Check.due("no sixth", -1, x.way(0, 5));
            Check.due("latest", first, x.latest(0, first + 73));
            Check.due("latest", first, x.latest(0, first + 80));
            Check.due("latest", first + 8, x.latest(0, first + 81));
            Check.due("not so soon", -1, x.latest(0, first + 72));
        }
        JuggledPost x = Check.told(CHAIN + "letter 0 at 9999 to 5;letter 1 at 0 to 0;");
        Check.due("latest of all", 99_920, x.latest(0, 99_999));
        Check.due("never", -1, x.soonest(1, 0));
        Check.due("never", -1, x.latest(1, 99_999));
    }

    // promise 29
    private static void wayIsToldThrowByThrow() {
        Stage.bounds("way of", 0, 2, -2, Stage.at(-1, 99_994), (x, v) -> x.way(v, 0));
        Stage.asked("the first", 1, x -> x.way(1, 0));
        Stage.asked("not so many", -1, x -> x.way(1, 1));
        Stage.asked("not so many", -1, x -> x.way(1, Integer.MAX_VALUE));
        Stage.refused("below 0", -2, x -> x.way(1, -1));
        Stage.refused("below 0", -2, x -> x.way(1, Integer.MIN_VALUE));
        Stage.refused("no letter, not so many", -2, x -> x.way(3, 9));
        Stage.refused("it can't come there, below 0", -2, x -> x.way(0, -1));
        // of ways with that BEAT the one with fewest throws, though its throw is later
        JuggledPost x = Check.told("roofs 3;throws 0 1 to 1 3 to 2 0 0;throws 1 0 3 to 2 0 0;letter 0 at 0 to 2;");
        Check.due("at beat 4", 4, x.soonest(0, 0));
        Check.due("one throw", 1, x.soonest(0, 1));
        Check.due("at beat 1", 10, x.way(0, 0));
        // of two ways of as many throws the one at the least BEAT, throw by throw
        x = Check.told("roofs 4;throws 0 2 to 1 1 to 2 0 0;throws 1 0 0 2 to 3 0;throws 2 0 0 2 to 3 0;letter 0 at 0 to 3;");
        Check.due("at beat 4", 4, x.soonest(0, 0));
        Check.due("the least beat first", 0, x.way(0, 0));
        Check.due("then by roof 1", 21, x.way(0, 1));
        x = Check.told("roofs 3;throws 0 1 to 1 0 0 0;throws 1 0 3 to 2 2 to 2 1 to 2;letter 0 at 0 to 2;");
        Check.due("the second at the least beat", 11, x.way(0, 1));
        JuggledPost six = Check.told("roofs 6;throws 3 1 to 0 0;throws 0 0 1 to 5;letter 3 at 0 to 5;");
        Check.due("of six by way of the first", 3, six.way(0, 0));
        Check.due("to the last", 10, six.way(0, 1));
        Check.due("two throws", 2, six.soonest(0, 1));
        Check.due("no wait", 0, x.soonest(0, 2));
    }

    // promise 30
    private static void readersAreTold() {
        Stage.bounds("readers of", 0, 2, -2, Stage.at(1, 48), (x, v) -> x.readers(v, 99_999));
        Stage.bounds("readers up to a beat", 0, 99_999, -2, Stage.at(2, 6), (x, v) -> x.readers(1, v));
        Stage.asked("in the air", 2, x -> x.readers(1, 2));
        Stage.asked("come down", 6, x -> x.readers(1, 3));
        Stage.asked("ahead of its beat", 0, x -> x.readers(2, 0));
        Stage.asked("ahead of its beat", 0, x -> x.readers(2, 9998));
        Stage.asked("at its beat", 16, x -> x.readers(2, 9999));
        Stage.asked("behind it", 48, x -> x.readers(2, 10_000));
        for (int letter = 0; letter < 3; letter++) {
            int asked = letter;
            Stage.refused(Stage::broken, "not kept up", -1, x -> x.readers(asked, 0));
        }
        Stage.refused(Stage::broken, "no letter, not kept up", -2, x -> x.readers(3, 0));
        Stage.refused(Stage::broken, "no beat, not kept up", -2, x -> x.readers(0, 100_000));
        Stage.refused(Stage::broken, "no beat, not kept up", -2, x -> x.readers(0, -1));
        JuggledPost x = Check.told("roofs 4;throws 0 2 to 1 0;throws 1 2 to 2 0;throws 2 2 to 0 0;letter 0 at 1 to 1;"
            + "letter 0 at 2 to 1;");
        Check.due("no ball", -1, x.readers(0, 0));
        Check.due("no ball", -1, x.readers(0, 99_999));
        Check.due("its own", 1, x.readers(1, 3));
        Check.due("where it is to go", 3, x.readers(1, 5));
        Check.due("it goes on behind", 7, x.readers(1, 6));
    }

    // promise 41
    private static void lettersLeaveLate() {
        Stage.bounds("latest of", 0, 2, -2, Stage.at(-1, 99_998), (x, v) -> x.latest(v, 99_999));
        Stage.bounds("latest for a beat", 0, 99_999, -2, Stage.at(-1, 99_996), (x, v) -> x.latest(1, v));
        Stage.asked("just in time", 0, x -> x.latest(1, 3));
        Stage.asked("just too late", -1, x -> x.latest(1, 2));
        Stage.asked("not ahead of its beat", -1, x -> x.latest(2, 9999));
        Stage.asked("at its beat", 9999, x -> x.latest(2, 10_000));
        Stage.asked("behind its beat", 10_000, x -> x.latest(2, 10_001));
        // rows are taken as they are
        Stage.refused(Stage::broken, "latest, not kept up", 0, x -> x.latest(1, 3));
        Stage.refused("never, no beat", -2, x -> x.latest(0, 100_000));
        Stage.refused("never, no beat", -2, x -> x.latest(0, -1));
        JuggledPost x = Check.told("roofs 2;throws 0 5 to 1 3 to 1;letter 0 at 1 to 1;");
        Check.due("at a beat or ahead", -1, x.latest(0, 3));
        Check.due("at a beat", 1, x.latest(0, 4));
        Check.due("ahead of it", 1, x.latest(0, 5));
        Check.due("the lower one of beat 3", 3, x.latest(0, 7));
    }

    // promise 31
    private static void ballsAreMissed() {
        Stage.bounds("misses of a roof", 0, 5, -2, Stage.at(-1, 1), (x, v) -> x.misses(v, 0, 4));
        Stage.bounds("misses at a beat", 0, 99_999, -2, Stage.at(9, 100_008), (x, v) -> x.misses(3, v, 3));
        Stage.bounds("misses by another", 0, 5, -2, Stage.at(-1, 1), (x, v) -> x.misses(4, 0, v));
        Stage.asked("by it, later", 2, x -> x.misses(4, 0, 4));
        Stage.refused(Stage::broken, "not kept up", -1, x -> x.misses(3, 0, 3));
        Stage.refused(Stage::broken, "no other, not kept up", -2, x -> x.misses(3, 0, 6));
        Stage.refused(Stage::broken, "no roof, not kept up", -2, x -> x.misses(6, 0, 3));
        Stage.refused(Stage::broken, "no beat, not kept up", -2, x -> x.misses(3, 100_000, 3));
        JuggledPost x = Check.told("roofs 2;throws 0 2 0;");
        Check.due("no ball", -1, x.misses(0, 1, 0));
        Check.due("no ball, no other", -2, x.misses(0, 1, 2));
        Check.due("never", -1, x.misses(0, 0, 1));
        // at the last throw of an ORBIT through all ROUNDS: the way leads by all six
        x = Check.told("roofs 6;throws 0 1 to 1;throws 1 1 to 2;throws 2 1 to 3;throws 3 1 to 4;throws 4 1 to 5;throws 5 1 to 0;");
        Check.due("by the sixth", 5, x.misses(0, 0, 5));
        Check.due("by itself", 6, x.misses(0, 0, 0));
    }

    // promise 32
    private static void missesAreCounted() {
        Stage.bounds("missed of a roof", 0, 5, -2, Stage.at(-1, 1), (x, v) -> x.missed(v, 0, 4, 1));
        Stage.bounds("missed at a beat", 0, 99_999, -2, Stage.at(1, 1), (x, v) -> x.missed(3, v, 3, 9));
        Stage.bounds("missed by another", 0, 5, -2, Stage.at(-1, 1), (x, v) -> x.missed(4, 0, v, 1));
        Stage.bounds("missed within", 0, 10_000, -2, Stage.at(0, 1111), (x, v) -> x.missed(3, 0, 3, v));
        Stage.asked("a beat ahead", 0, x -> x.missed(3, 0, 3, 8));
        Stage.asked("at that beat", 1, x -> x.missed(3, 0, 3, 9));
        Stage.asked("a beat ahead of the second", 1, x -> x.missed(3, 0, 3, 17));
        Stage.asked("at the second", 2, x -> x.missed(3, 0, 3, 18));
        Stage.asked("as late as can be", 1111, x -> x.missed(3, 99_999, 3, 10_000));
        Stage.refused(Stage::broken, "not kept up", -1, x -> x.missed(3, 0, 3, 0));
        Stage.refused(Stage::broken, "no n, not kept up", -2, x -> x.missed(3, 0, 3, 10_001));
        Stage.refused(Stage::broken, "no n, not kept up", -2, x -> x.missed(3, 0, 3, -1));
        JuggledPost x = Check.told("roofs 2;throws 0 1 1;throws 1 2 0;");
        Check.due("no ball", -1, x.missed(1, 1, 1, 10));
        Check.due("no ball, no n", -2, x.missed(1, 1, 1, 10_001));
        Check.due("every beat", 10_000, x.missed(0, 0, 0, 10_000));
    }

    // VI, promise 33
    private static void statesAreTold() {
        Stage.bounds("state of a roof", 0, 5, -2, Stage.at(7, -1), (x, v) -> x.state(v, 0));
        Stage.bounds("state ahead of a throw", 0, 2, -2, Stage.at(7, 13), (x, v) -> x.state(0, v));
        Stage.asked("nine balls", 511, x -> x.state(3, 0));
        Stage.asked("not solo", -1, x -> x.state(1, 1));
        Stage.refused("not solo, no throw", -2, x -> x.state(1, 2));
        Stage.refused("not solo, no throw", -2, x -> x.state(5, -1));
        Stage.refused(Stage::broken, "not kept up alone", -1, x -> x.state(0, 0));
        Stage.refused(Stage::broken, "not kept up alone, no throw", -2, x -> x.state(0, 3));
        Stage.refused(Stage::broken, "kept up alone, if not with the others", 511, x -> x.state(3, 0));
        // as a row of a ROOF with no other: what others throw to it is not asked
        JuggledPost x = Check.told("roofs 2;throws 0 3;throws 1 2 to 0;");
        Check.due("not kept up", 0, x.keeps());
        Check.due("kept up alone", 7, x.state(0, 0));
        Check.due("not solo", -1, x.state(1, 0));
        x = Check.told("roofs 2;throws 0 3 3 3 3 3 3 3 3 to 1;");
        Check.due("one throw goes to another", -1, x.state(0, 0));
        x.set(0, 7, 3, 0);
        Check.due("none does", 7, x.state(0, 7));
        Check.due("no balls", 0, Check.told("roofs 1;").state(0, 0));
        Check.due("the first and the third come down at once", -1, Check.told("roofs 1;throws 0 2 2 0;").state(0, 0));
        Check.due("the first and the last come down at once", -1, Check.told("roofs 1;throws 0 7 1 1 1 1 1 1 8;").state(0, 0));
    }

    // VI: bits 0 to 8, of throws up to nine BEATS ahead, round rows of any length
    private static void statesReachFar() {
        JuggledPost x = Check.told("roofs 1;throws 0 8 0 0 0 0 0 0 0;");
        for (int i = 0; i < 8; i++) {
            Check.due("one ball ahead of " + i, 1 << (8 - i) % 8, x.state(0, i));
        }
        x = Check.told("roofs 1;throws 0 9 7 8;");
        Check.due("keeps", 1, x.keeps());
        Check.due("ahead of 9", 255, x.state(0, 0));
        Check.due("ahead of 7", 383, x.state(0, 1));
        Check.due("ahead of 8", 255, x.state(0, 2));
        // the highest bit: a 9 thrown just ahead
        x = Check.told("roofs 1;throws 0 9 0 0;");
        Check.due("behind the 9", 256 + 32 + 4, x.state(0, 1));
        Check.due("ahead of the 9", 1 + 8 + 64, x.state(0, 0));
        // rows of seven go on round to throws ahead of 0
        x = Check.told("roofs 1;throws 0 1 1 1 1 1 9 7;");
        Check.due("ahead of throw 0", 1 + 64 + 128, x.state(0, 0));
    }

    // VI, promise 34
    private static void rowsChange() {
        Stage.bounds("change of a roof", 0, 5, -2, Stage.at(0, -1), (x, v) -> x.change(v, 0, 0, 0));
        Stage.bounds("change ahead of i", 0, 2, -2, Stage.at(0, 1), (x, v) -> x.change(0, v, 0, 0));
        Stage.bounds("change to another", 0, 5, -2, Stage.at(0, -1), (x, v) -> x.change(0, 0, v, 0));
        Stage.bounds("change ahead of k", 0, 2, -2, Stage.at(0, 2), (x, v) -> x.change(0, 0, 0, v));
        Stage.asked("not as many balls", -1, x -> x.change(0, 0, 3, 0));
        Stage.asked("not solo", -1, x -> x.change(1, 0, 0, 0));
        Stage.asked("not solo", -1, x -> x.change(0, 0, 1, 0));
        Stage.refused("not solo, no throw", -2, x -> x.change(1, 0, 0, 3));
        Stage.refused("not solo, no throw", -2, x -> x.change(1, 2, 0, 0));
        Stage.refused(Stage::broken, "not kept up alone", -1, x -> x.change(0, 0, 0, 0));
        Stage.refused(Stage::broken, "kept up alone", 0, x -> x.change(3, 0, 3, 0));
        JuggledPost x = Check.told("roofs 6;throws 0 8 0 0 0 0 0 0 0;throws 1 1;throws 3 9 0 0;throws 4 3;");
        Check.due("no throw at all", 0, x.change(0, 3, 0, 3));
        Check.due("no balls", 0, x.change(2, 0, 5, 0));
        Check.due("none and one", -1, x.change(2, 0, 1, 0));
        Check.due("an 8 at once", 1, x.change(1, 0, 0, 1));
        Check.due("seven zeros", 7, x.change(0, 1, 1, 0));
        Check.due("six zeros, and one throw", 7, x.change(0, 2, 0, 1));
        Check.due("two throws", 2, x.change(4, 0, 3, 0));
    }

    private static void change(JuggledPost x, int roof, int i, int other, int k, int... due) {
        Check.due("change", due.length, x.change(roof, i, other, k));
        for (int n = 0; n < due.length; n++) {
            Check.due("throw " + n, due[n], x.changes(roof, i, other, k, n));
        }
        Check.due("not so many", -1, x.changes(roof, i, other, k, due.length));
        Check.due("not so many", -1, x.changes(roof, i, other, k, Integer.MAX_VALUE));
        Check.due("below 0", -2, x.changes(roof, i, other, k, -1));
        Check.due("below 0", -2, x.changes(roof, i, other, k, Integer.MIN_VALUE));
    }

    // promise 35
    private static void changesAreTold() {
        Stage.bounds("changes of a roof", 0, 5, -2, Stage.at(4, -1), (x, v) -> x.changes(v, 0, 0, 2, 0));
        Stage.bounds("changes ahead of i", 0, 2, -2, Stage.at(-1, 1), (x, v) -> x.changes(0, v, 0, 0, 0));
        Stage.bounds("changes to another", 0, 5, -2, Stage.at(4, -1), (x, v) -> x.changes(0, 0, v, v == 0 ? 2 : 0, 0));
        Stage.bounds("changes ahead of k", 0, 2, -2, Stage.at(-1, 4), (x, v) -> x.changes(0, 0, 0, v, 0));
        Stage.refused("not solo", -1, x -> x.changes(1, 0, 0, 0, 0));
        Stage.refused("not solo, below 0", -2, x -> x.changes(1, 0, 0, 0, -1));
        Stage.refused("not solo, no throw", -2, x -> x.changes(1, 0, 0, 3, 0));
        Stage.refused(Stage::broken, "not kept up alone", -1, x -> x.changes(0, 0, 0, 0, 0));
        JuggledPost x = Check.told("roofs 6;throws 0 8 0 0 0 0 0 0 0;throws 1 1;throws 3 9 0 0;throws 4 3;throws 5 5 1;");
        change(x, 0, 1, 1, 0, 0, 0, 0, 0, 0, 0, 0);
        change(x, 0, 2, 0, 1, 0, 0, 0, 0, 0, 0, 8);
        change(x, 1, 0, 0, 1, 8);
        change(x, 1, 0, 1, 0);
        change(x, 2, 0, 2, 0);
        change(x, 3, 0, 3, 1, 9);
        change(x, 3, 2, 3, 1, 0, 9);
        // 5 and 7, or 8 and 4: the least row of HEIGHTS
        change(x, 4, 0, 3, 0, 5, 7);
        change(x, 4, 0, 5, 1, 4, 5);
        Check.due("not as many balls", -1, x.changes(1, 0, 4, 0, 0));
        Check.due("not as many balls, below 0", -2, x.changes(1, 0, 4, 0, -1));
    }

    // promise 40
    private static void rowsGoToGround() {
        Stage.bounds("ground of a roof", 0, 5, -2, Stage.at(0, -1), (x, v) -> x.ground(v, 0));
        Stage.bounds("ground ahead of a throw", 0, 2, -2, Stage.at(0, 1), (x, v) -> x.ground(0, v));
        Stage.asked("all bits are the lowest", 0, x -> x.ground(3, 0));
        Stage.refused("not solo, no throw", -2, x -> x.ground(1, 2));
        Stage.refused(Stage::broken, "not kept up alone", -1, x -> x.ground(0, 0));
        Stage.refused(Stage::broken, "not kept up alone, no throw", -2, x -> x.ground(0, 3));
        Stage.refused(Stage::broken, "kept up alone", 0, x -> x.ground(3, 0));
        JuggledPost x = Check.told("roofs 2;throws 0 8 0 0 0 0 0 0 0;throws 1 9 0 0;");
        Check.due("in seven", 7, x.ground(0, 1));
        Check.due("in none", 0, x.ground(0, 0));
        Check.due("the ball of six beats on is the third then", 4, x.ground(1, 0));
        Check.due("no balls", 0, Check.told("roofs 1;").ground(0, 0));
    }

    // promise 36
    private static void rowsAreCounted() {
        Stage.bounds("rows of p", 1, 8, -2, Stage.at(1, countRows(8, 2, 9)), (x, v) -> x.rows(v, 2, 9));
        Stage.bounds("rows of b", 0, 9, -2, Stage.at(1, 1), (x, v) -> x.rows(2, v, 9));
        Stage.bounds("rows of top", 0, 9, -2, Stage.at(0, 7), (x, v) -> x.rows(2, 3, v));
        JuggledPost x = new JuggledPost();
        Check.due("of one throw", 1, x.rows(1, 9, 9));
        Check.due("of one throw", 0, x.rows(1, 9, 8));
        Check.due("of one throw", 1, x.rows(1, 8, 8));
        Check.due("no balls", 1, x.rows(8, 0, 0));
        Check.due("all alike", 1, x.rows(8, 9, 9));
        Check.due("the top is the number of balls", 1, x.rows(8, 5, 5));
        Check.due("the top is below it", 0, x.rows(8, 5, 4));
        for (int p = 1; p <= 4; p++) {
            for (int b = 0; b <= 9; b++) {
                for (int top = 0; top <= 9; top++) {
                    int number = countRows(p, b, top);
                    Check.due("rows " + p + " " + b + " " + top, number, new JuggledPost().rows(p, b, top));
                    least(p, b, top, number == 0 ? new int[] {-1} : leastRow(p, b, top));
                }
            }
        }
    }

    /** By the words of term II: no two throws come down at one BEAT of the row. */
    private static int countRows(int p, int b, int top) {
        return countFrom(p, p * b, top, 0, 0);
    }

    private static int countFrom(int p, int left, int top, int i, int met) {
        if (i == p) {
            return left == 0 ? 1 : 0;
        }
        int number = 0;
        for (int height = 0; height <= top && height <= left; height++) {
            int bit = bitOf(p, i, height);
            if ((met & bit) == 0) {
                number += countFrom(p, left - height, top, i + 1, met | bit);
            }
        }
        return number;
    }

    private static int[] leastRow(int p, int b, int top) {
        int[] row = new int[p];
        int left = p * b;
        int met = 0;
        for (int i = 0; i < p; i++) {
            while ((met & bitOf(p, i, row[i])) != 0 || countFrom(p, left - row[i], top, i + 1, met | bitOf(p, i, row[i])) == 0) {
                row[i]++;
            }
            left -= row[i];
            met |= bitOf(p, i, row[i]);
        }
        return row;
    }

    private static int bitOf(int p, int i, int height) {
        return 1 << (i + height) % p;
    }

    private static void least(int p, int b, int top, int... due) {
        JuggledPost x = new JuggledPost();
        for (int n = 0; n < p; n++) {
            Check.due("least " + p + " " + b + " " + top + " " + n, due[due.length == 1 ? 0 : n], x.least(p, b, top, n));
        }
        for (int n : new int[] {-1, p, Integer.MIN_VALUE, Integer.MAX_VALUE}) {
            Check.due("least of no such n", -2, x.least(p, b, top, n));
        }
    }

    // promise 37
    private static void leastRowsAreTold() {
        Stage.bounds("least of p", 1, 8, -2, Stage.at(2, 0), (x, v) -> x.least(v, 2, 9, 0));
        Stage.bounds("least of b", 0, 9, -2, Stage.at(0, 9), (x, v) -> x.least(2, v, 9, 1));
        Stage.bounds("least of top", 0, 9, -2, Stage.at(-1, 0), (x, v) -> x.least(3, 3, v, 1));
        Stage.bounds("least of n", 0, 7, -2, Stage.at(0, 8), (x, v) -> x.least(8, 1, 9, v));
        least(1, 0, 0, 0);
        least(1, 9, 9, 9);
        least(1, 9, 8, -1);
        least(8, 9, 9, 9);
        least(8, 9, 8, -1);
        least(8, 0, 0, 0);
        least(8, 1, 9, 0, 0, 0, 0, 0, 0, 0, 8);
        least(2, 3, 5, 1, 5);
        least(2, 3, 9, 0, 6);
        least(3, 3, 9, 0, 0, 9);
        least(3, 3, 3, 3);
        least(3, 4, 3, -1);
        least(2, 5, 9, 1, 9);
    }

    // promise 44
    private static void gustsAreBound() {
        Stage.bounds("gusts of a seed", 0, 2_000_000_000, -2, Stage.at(20, 20), (x, v) -> x.gusts(v, 0, 0));
        Stage.outside("gusts of beats", 0, 2000, -2, (x, v) -> x.gusts(0, v, 0));
        Stage.bounds("gusts what", 0, 2, -2, Stage.at(20 - dropsOfFour(1), 0), (x, v) -> x.gusts(1, 1, v));
        Stage.bounds("gusts what", 0, 2, -2, Stage.at(20 - dropsOfFour(7), 1), (x, v) -> x.gusts(7, 1, v));
        Stage.asked("no beats, no drop", 20, x -> x.gusts(0, 0, 0));
        Stage.asked("no beats, no drop", -1, x -> x.gusts(0, 0, 1));
        Stage.asked("no beats, no drop", -1, x -> x.gusts(0, 0, 2));
        Stage.asked("those below the height are left", 2, x -> x.gusts(0, 2000, 0));
        for (int what = 0; what < 3; what++) {
            int asked = what;
            Stage.refused(Stage::broken, "not kept up", -1, x -> x.gusts(0, 2000, asked));
        }
        Stage.refused(Stage::broken, "no seed, not kept up", -2, x -> x.gusts(-1, 0, 0));
        Stage.refused(Stage::broken, "no n, not kept up", -2, x -> x.gusts(0, 2001, 0));
        Stage.refused(Stage::broken, "no what, not kept up", -2, x -> x.gusts(0, 0, 3));
        Stage.refused(Stage::bare, "no city, no what", -2, x -> x.gusts(0, 0, 3));
        JuggledPost x = Check.told("roofs 1;throws 0 0 2;gusts from 1 odds 100;");
        Check.due("none thrown at beat 0", 1, x.gusts(0, 1, 0));
        Check.due("dropped at beat 1", 0, x.gusts(0, 2, 0));
        Check.due("at beat 1", 1, x.gusts(0, 2, 1));
        Check.due("not within one beat", -1, x.gusts(0, 1, 1));
        x = Check.told("roofs 6;gusts from 1 odds 100;");
        Check.due("no balls", 0, x.gusts(0, 2000, 0));
        Check.due("no drop", -1, x.gusts(0, 2000, 1));
        Check.due("no drop", -1, x.gusts(0, 2000, 2));
    }

    /** Of the stage at BEAT 0, whose ROOFS 0 to 3 throw 3 or higher: odds are 50. */
    private static int dropsOfFour(int seed) {
        int drops = 0;
        for (int roof = 0; roof < 4; roof++) {
            drops += draw(seed, roof) < 50 ? 1 : 0;
        }
        return drops;
    }

    // VII: of a HEIGHT from that on a draw; it drops, if that is below odds
    private static void gustsOfOddsAndHeights() {
        for (int height = 1; height <= 9; height++) {
            for (int from = 1; from <= 9; from++) {
                JuggledPost x = Check.told("roofs 1;throws 0 " + height + ";gusts from " + from + " odds 100;");
                Check.due("a " + height + " in gusts from " + from, height < from ? height : 0, x.gusts(0, 2000, 0));
                Check.due("the first drop", height < from ? -1 : 0, x.gusts(0, 2000, 1));
            }
        }
        // of seed 0 the draws are 0, 68, 88
        int[] draws = {0, 68, 88};
        for (int i = 0; i < 3; i++) {
            Check.due("the draw of " + i, draws[i], draw(0, i));
        }
        String three = "roofs 3;throws 0 1;throws 1 1;throws 2 1;gusts from 1 odds ";
        int[] odds = {0, 1, 68, 69, 88, 89, 100};
        int[] left = {3, 2, 2, 1, 1, 0, 0};
        int[] roof = {-1, 0, 0, 0, 0, 0, 0};
        for (int i = 0; i < odds.length; i++) {
            JuggledPost x = Check.told(three + odds[i] + ";");
            Check.due("left at odds " + odds[i], left[i], x.gusts(0, 1, 0));
            Check.due("who dropped it at odds " + odds[i], roof[i], x.gusts(0, 1, 2));
        }
        // a ball below the HEIGHT takes no draw: the first is that of the last ROOF
        JuggledPost x = Check.told("roofs 3;throws 0 1;throws 1 1;throws 2 2;gusts from 2 odds 1;");
        Check.due("the last roof drops", 2, x.gusts(0, 1, 2));
        Check.due("three of four are left", 3, x.gusts(0, 1, 0));
        // what has dropped is not thrown again: it takes no draw
        x = Check.told("roofs 2;throws 0 1;throws 1 1;gusts from 1 odds 1;");
        Check.due("the first of beat 0 drops", 1, x.gusts(0, 1, 0));
        int next = 2;
        while (draw(0, next) >= 1) {
            next++;
        }
        Check.due("one ball is left till its draw", 1, x.gusts(0, next - 1, 0));
        Check.due("and none behind it", 0, x.gusts(0, next, 0));
    }

    /** The n-th draw of a seed, in numbers that need no cutting. */
    private static int draw(long seed, int n) {
        long x = seed;
        for (int i = 0; i <= n; i++) {
            x = (1_103_515_245L * x + 12_345) % 2_147_483_648L;
        }
        return (int) (x / 65_536 % 100);
    }

    // VII: x becomes .. modulo 2,147,483,648
    private static void drawsAreModulo() {
        int[] seeds = {0, 1, 2, 65_535, 65_536, 1_073_741_824, 1_999_999_999, 2_000_000_000};
        for (int seed : seeds) {
            for (int odds : new int[] {1, 2, 50, 99, 100}) {
                JuggledPost x = Check.told("roofs 1;throws 0 1;gusts from 1 odds " + odds + ";");
                int first = -1;
                for (int i = 0; i < 2000 && first < 0; i++) {
                    first = draw(seed, i) < odds ? i : -1;
                }
                Check.due("the first drop of " + seed + " at " + odds, first, x.gusts(seed, 2000, 1));
                Check.due("left of " + seed + " at " + odds, first < 0 ? 1 : 0, x.gusts(seed, 2000, 0));
                if (first >= 0) {
                    Check.due("a beat too few", 1, x.gusts(seed, first, 0));
                    Check.due("just enough", 0, x.gusts(seed, first + 1, 0));
                }
            }
        }
        // nine balls in turn, of which those that have dropped take no draw
        JuggledPost x = Check.told("roofs 1;throws 0 9;gusts from 9 odds 1;");
        int drops = 0;
        boolean[] gone = new boolean[9];
        int drawn = 0;
        for (int beat = 0; beat < 2000; beat++) {
            if (!gone[beat % 9]) {
                gone[beat % 9] = draw(7, drawn) < 1;
                drops += gone[beat % 9] ? 1 : 0;
                drawn++;
            }
        }
        Check.due("what is left of nine", 9 - drops, x.gusts(7, 2000, 0));
    }

    // promise 45
    private static void yearsAreBound() {
        Stage.bounds("years of a seed", 0, 2_000_000_000, -2, Stage.at(0, 0), (x, v) -> x.years(v, 1, 0));
        Stage.bounds("years of k", 1, 20, -2, Stage.at(1, 20), (x, v) -> x.years(0, v, 2000));
        Stage.bounds("years of beats", 0, 2000, -2, Stage.at(0, 20), (x, v) -> x.years(0, 20, v));
        Stage.refused("no years", -2, x -> x.years(0, 0, 0));
        Stage.refused(Stage::broken, "not kept up", -1, x -> x.years(0, 20, 2000));
        Stage.refused(Stage::broken, "no k, not kept up", -2, x -> x.years(0, 21, 0));
        Stage.refused(Stage::broken, "no seed, not kept up", -2, x -> x.years(2_000_000_001, 1, 0));
        Stage.refused(Stage::broken, "no n, not kept up", -2, x -> x.years(0, 1, 2001));
        // the seeds are the seed, the seed and 1, ..: up to 2,000,000,019
        int[] seeds = {0, 5, 1_999_999_990, 2_000_000_000};
        for (int seed : seeds) {
            JuggledPost x = Check.told("roofs 1;throws 0 1;gusts from 1 odds 50;");
            int number = 0;
            for (int k = 1; k <= 20; k++) {
                number += draw(seed + k - 1, 0) < 50 ? 1 : 0;
                Check.due("years of " + seed + ", " + k, number, x.years(seed, k, 1));
            }
        }
        Check.due("no odds", 0, Check.told("roofs 1;throws 0 9;").years(0, 20, 2000));
        Check.due("a year drops but once", 20, Check.told("roofs 1;throws 0 9;gusts from 1 odds 100;").years(0, 20, 2000));
    }
}
