/** Each promise by hand: ordinary inputs, the edges that the document names, wrong inputs. */
final class PromiseTests {
    /** 531 beside 42: all alone, ROUND 6, three and three balls. */
    private static final String ALONE = "roofs 2;throws 0 5 3 1;throws 1 4 2;letter 0 at 1 to 1;";
    /** Two that pass at every other beat: ROUND 2, six balls, one orbit a pair of rows. */
    private static final String PAIR = "roofs 2;throws 0 3 to 1 3;throws 1 3 to 0 3;cross 0 1;cross 1 0;"
        + "letter 0 at 0 to 1;letter 1 at 4 to 0;";

    public static void main(String[] args) {
        fresh();
        tapeIsFed();
        citiesAreTold();
        faultsAreTold();
        rowsAreRead();
        rowsAreChanged();
        itIsKeptUp();
        ballsGo();
        pairsCross();
        kindsAreSuited();
        wagesAreDue();
        lettersGo();
        ballsAreDropped();
        statesChange();
        rowsAreCounted();
        allGoesBackwards();
        beatsAreBusy();
        itGusts();
        slotsHoldRows();
        throwsAreTaken();
        thingsAreCounted();
        imagesAreKept();
        Check.close("PromiseTests");
    }

    // 1
    private static void fresh() {
        JuggledPost x = new JuggledPost();
        for (int what = 0; what <= 8; what++) {
            Check.due("count of a new object", 0, x.count(what));
        }
        Check.due("turn", -2, x.turn());
        Check.due("keeps", -2, x.keeps());
        Check.due("period", -2, x.period(0));
        Check.due("clash", -2, x.clash(0));
        Check.due("balls", -2, x.balls());
        Check.due("orbits", -2, x.orbits());
        Check.due("air", -2, x.air(0));
        Check.due("crossings", -2, x.crossings(0));
        Check.due("busiest", -2, x.busiest(0));
        Check.due("backwards", -2, x.backwards());
        Check.due("gusts", -2, x.gusts(0, 0, 0));
        Check.due("years", -2, x.years(0, 1, 0));
        Check.due("back", -6, x.back(0));
        Check.due("fault 0", 0, x.fault(0));
        Check.due("fault 1", -1, x.fault(1));
        Check.due("fault 2", -1, x.fault(2));
        Check.due("judge", -2, x.judge(0, 0));
    }

    // 2, 3
    private static void tapeIsFed() {
        JuggledPost x = new JuggledPost();
        for (int i = 1; i <= 80; i++) {
            Check.due("feed", 20 * i, x.feed(0, 0, 0, 0, 0));
        }
        Check.due("feed beyond 1,600", -1, x.feed(0, 0, 0, 0, 0));
        Check.due("the tape stays", 1600, x.count(4));
        Check.due("end above", -1, x.end(1601));
        Check.due("end below", -1, x.end(-1));
        Check.due("end", 1581, x.end(1581));
        Check.due("feed to 1,601", -1, x.feed(0, 0, 0, 0, 0));
        Check.due("end", 1580, x.end(1580));
        Check.due("feed to 1,600", 1600, x.feed(0, 0, 0, 0, 0));
        Check.due("end", 0, x.end(0));
        // "roofs 3;" with the highest byte of each number first
        Check.due("feed", 20, x.feed(0x726f6f66, 0x7320333b, 0x20202020, 0x0a0a0a0a, 0x20202020));
        Check.due("city", 1, x.city());
        Check.due("roofs", 3, x.count(0));
        Check.due("end of an empty tape", 0, x.end(0));
        Check.due("end of an empty tape", -1, x.end(1));
    }

    // 4, 48
    private static void citiesAreTold() {
        JuggledPost x = new JuggledPost();
        Check.due("lines", 1, Check.tell(x, "roofs 6;"));
        Check.due("the tape is empty then", 0, x.count(4));
        Check.due("period without throws", 1, x.period(5));
        Check.due("height without throws", 0, x.tosses(5, 7, 0));
        Check.due("goal without throws", 5, x.tosses(5, 7, 1));
        Check.due("a fault", -4, Check.tell(x, "roofs 2;;"));
        Check.due("the city stays", 6, x.count(0));
        Check.due("the tape stays", 9, x.count(4));
        Check.due("cut ahead of the fault", 8, x.end(8));
        Check.due("city", 1, x.city());
        Check.due("its roofs", 2, x.count(0));
        Check.due("the tape is empty then", 0, x.count(4));
        Check.due("the longest tokens", 3, Check.tell(x, "roofs2;throws0 3to1 00004;\n gusts from9odds0100;"));
        Check.due("3 to 1", 3, x.tosses(0, 0, 0));
        Check.due("3 to 1", 1, x.tosses(0, 0, 1));
        Check.due("4", 4, x.tosses(0, 1, 0));
        Check.due("odds", 100, x.count(6));
        Check.due("later lines strike", 7, Check.tell(x,
            "roofs 2;throws 0 1 2 3;throws 0 4 4 1 0 to 0;throws 0 5 to 1 1;thrower 1 left;thrower 1 slow;thrower 1 left;"));
        Check.due("of the later line", 2, x.period(0));
        Check.due("of the later line", 5, x.tosses(0, 2, 0));
        Check.due("of the later kind", 1, x.tosses(1, 0, 2));
        Check.due("odds without", 0, x.count(6));
        Check.due("from without", 9, x.count(5));
        Check.due("eight throws, six crosses, eight letters", 16, Check.tell(x, "roofs 2;throws 0 1 1 1 1 1 1 1 1;"
            + "cross 0 1;cross 0 1;cross 0 1;cross 1 0;cross 1 0;cross 0 1;" + "letter 0 at 9999 to 1;".repeat(8)));
        Check.due("letters", 8, x.count(1));
        Check.due("six crosses anew", 8, Check.tell(x, "roofs 2;" + "cross 0 1;".repeat(6) + "gusts from 1 odds 1;"));
        Check.due("no letter of before", 0, x.count(1));
        Check.due("gusts anew", 3, Check.tell(x, "roofs 2;thrower 0 left;gusts from 1 odds 1;"));
        Check.due("no pair of before", 0, x.count(2));
        Check.due("no throws of before", 0, x.count(7));
        Check.due("nothing of before", 1, Check.tell(x, "roofs 2;"));
        Check.due("no kind of before", 0, x.tosses(0, 0, 2));
        Check.due("no gusts of before", 9, x.count(5));
        Check.due("no odds of before", 0, x.count(6));
        Check.due("no line", 0, Check.tell(x, " \n "));
        Check.due("there is none then", -2, x.turn());
        Check.due("count", 0, x.count(5));
        Check.due("fault", 0, x.fault(0));
    }

    private static void faulty(String text, int fault, int place) {
        JuggledPost x = Check.told("roofs 3;throws 0 3;");
        Check.due("city " + text, -4, Check.tell(x, text));
        Check.due("fault of " + text, fault, x.fault(0));
        Check.due("place in " + text, place, x.fault(1));
        Check.due("no such what", -1, x.fault(2));
        Check.due("no such what", -1, x.fault(-1));
        Check.due("all stays", 3, x.count(0));
        Check.due("all stays", 3, x.tosses(0, 0, 0));
        Check.due("all stays", text.length(), x.count(4));
        Check.due("the same again", -4, x.city());
        Check.due("the same place", place, x.fault(1));
        x.end(0);
        Check.due("the next city", 1, Check.tell(x, "roofs 1;"));
        Check.due("its fault", 0, x.fault(0));
        Check.due("its place", -1, x.fault(1));
    }

    // 4, 5
    private static void faultsAreTold() {
        faulty("roofs 2", 1, 7);
        faulty("roofs 2 \n", 1, 9);
        faulty("roofs", 1, 5);
        faulty(";", 1, 0);
        faulty(" cross 0 1;", 1, 1);
        faulty("Roofs 2;", 1, 0);
        faulty("roofs 0;", 2, 6);
        faulty("roofs 7;", 2, 6);
        faulty("roofs 99999999999999999999999;", 2, 6);
        faulty("roofs 4294967298;", 2, 6);
        faulty("roofs two;", 1, 6);
        faulty("roofs 2 3;", 1, 8);
        faulty("roofs 2;;", 1, 8);
        faulty("roofs 2;roofs 2;", 1, 8);
        faulty("roofs 2;roof", 1, 8);
        faulty("roofs 2;roofss", 1, 8);
        faulty("roofs 2;7", 1, 8);
        faulty("roofs 2;\t", 1, 8);
        faulty("roofs 2;" + (char) 0, 1, 8);
        faulty("roofs 2;" + (char) 233, 1, 8);
        faulty("roofs 2;thrower 2 plain;", 2, 16);
        faulty("roofs 2;thrower 1 tall;", 1, 18);
        faulty("roofs 2;thrower 1 left slow;", 1, 23);
        faulty("roofs 2;thrower plain;", 1, 16);
        faulty("roofs 2;throws 2 1;", 2, 15);
        faulty("roofs 2;throws 0;", 1, 16);
        faulty("roofs 2;throws 0 10;", 2, 17);
        faulty("roofs 2;throws 0 3 to 2;", 2, 22);
        faulty("roofs 2;throws 0 3 to;", 1, 21);
        faulty("roofs 2;throws 0 to 1;", 1, 17);
        faulty("roofs 2;throws 0 0 to 1;", 2, 22);
        faulty("roofs 2;throws 0 3 at 1;", 1, 19);
        faulty("roofs 2;throws 0 3 to 1 to 1;", 1, 24);
        faulty("roofs 2;throws 0 1 1 1 1 1 1 1 1 9", 3, 33);
        faulty("roofs 2;throws 0 1 1 1 1 1 1 1 1 10", 2, 33);
        faulty("roofs 2;throws 0 1 1 1 1 1 1 1 1 to 0 1;", 3, 38);
        faulty("roofs 2;throws 0 1 1 1 1 1 1 1 1 cross", 1, 33);
        faulty("roofs 2;cross 0 0;", 2, 16);
        faulty("roofs 2;cross 0 2;", 2, 16);
        faulty("roofs 2;cross 2 0;", 2, 14);
        faulty("roofs 2;cross 0;", 1, 15);
        faulty("roofs 1;cross 0 0;", 2, 16);
        faulty("roofs 2;" + "cross 0 1;".repeat(6) + "cross", 3, 68);
        faulty("roofs 2;letter 0 at 0 to 0;", 2, 25);
        faulty("roofs 2;letter 0 at 10000 to 1;", 2, 20);
        faulty("roofs 2;letter 2 at 0 to 1;", 2, 15);
        faulty("roofs 2;letter 0 at 0 to 2;", 2, 25);
        faulty("roofs 2;letter 0 to 0 at 1;", 1, 17);
        faulty("roofs 2;letter 0 at 0 at 1;", 1, 22);
        faulty("roofs 2;" + "letter 0 at 0 to 1;".repeat(8) + "letter", 3, 160);
        faulty("roofs 2;gusts from 0 odds 1;", 2, 19);
        faulty("roofs 2;gusts from 10 odds 1;", 2, 19);
        faulty("roofs 2;gusts from 1 odds 101;", 2, 26);
        faulty("roofs 2;gusts odds 1;", 1, 14);
        faulty("roofs 2;gusts from 1;", 1, 20);
        faulty("roofs 2;gusts from 9 odds 0;gusts", 2, 28);
        faulty("roofs 2;cross 0 0;gusts from 77 odds 1;", 2, 16);
    }

    // 6, 7, 8
    private static void rowsAreRead() {
        JuggledPost x = Check.told("roofs 3;throws 0 5 3 1;throws 1 4 to 2 2;thrower 2 left;");
        Check.due("height", 5, x.tosses(0, 99_999, 0));
        Check.due("height", 1, x.tosses(0, 5, 0));
        Check.due("goal", 2, x.tosses(1, 4, 1));
        Check.due("goal", 1, x.tosses(1, 5, 1));
        Check.due("hand", 0, x.tosses(0, 4, 2));
        Check.due("hand", 1, x.tosses(0, 5, 2));
        Check.due("hand of a left one", 1, x.tosses(2, 4, 2));
        Check.due("hand of a left one", 0, x.tosses(2, 5, 2));
        Check.due("no beat", -2, x.tosses(0, 100_000, 0));
        Check.due("no beat", -2, x.tosses(0, -1, 0));
        Check.due("no roof", -2, x.tosses(3, 0, 0));
        Check.due("no roof", -2, x.tosses(-1, 0, 0));
        Check.due("no what", -2, x.tosses(0, 0, 3));
        Check.due("no what", -2, x.tosses(0, 0, -1));
        Check.due("period", 3, x.period(0));
        Check.due("period", 2, x.period(1));
        Check.due("period", 1, x.period(2));
        Check.due("no roof", -2, x.period(3));
        Check.due("no roof", -2, x.period(-1));
        Check.due("round", 6, x.turn());
        Check.due("round", 840, Check.told("roofs 4;throws 0 1 1 1 1 1;throws 1 1 1 1 1 1 1;"
            + "throws 2 1 1 1 1 1 1 1;throws 3 1 1 1 1 1 1 1 1;").turn());
        Check.due("round of like throws", 4, Check.told("roofs 2;throws 0 3 3;throws 1 3 3 3 3;").turn());
    }

    // 9, 10, 11, 38
    private static void rowsAreChanged() {
        JuggledPost x = Check.told(ALONE);
        Check.due("set", 50, x.set(0, 0, 9, 1));
        Check.due("set again", 91, x.set(0, 0, 0, 0));
        Check.due("set to nothing", 0, x.tosses(0, 3, 0));
        Check.due("0 to another", -2, x.set(0, 0, 0, 1));
        Check.due("no height", -2, x.set(0, 0, 10, 0));
        Check.due("no height", -2, x.set(0, 0, -1, 0));
        Check.due("no throw", -2, x.set(0, 3, 1, 0));
        Check.due("no throw", -2, x.set(0, -1, 1, 0));
        Check.due("no roof", -2, x.set(2, 0, 1, 0));
        Check.due("no goal", -2, x.set(0, 0, 1, 2));
        Check.due("set back", 0, x.set(0, 0, 5, 0));

        Check.due("swap", 0, x.swap(0, 0, 1));
        Check.due("441", 4, x.tosses(0, 0, 0));
        Check.due("441", 4, x.tosses(0, 1, 0));
        Check.due("swap with 1", 0, x.swap(0, 2, 0));
        Check.due("242 to 3", 3, x.tosses(0, 0, 0));
        Check.due("242 to 2", 2, x.tosses(0, 2, 0));
        Check.due("one and the same", -2, x.swap(0, 1, 1));
        Check.due("no throw", -2, x.swap(0, 0, 3));
        Check.due("no throw", -2, x.swap(0, -1, 0));
        Check.due("no roof", -2, x.swap(2, 0, 1));
        x.set(0, 0, 2, 1);
        x.set(0, 2, 3, 0);
        Check.due("below 1", -5, x.swap(0, 0, 2));
        Check.due("nothing happens", 2, x.tosses(0, 0, 0));
        x.set(0, 2, 8, 0);
        Check.due("above 9", -5, x.swap(0, 0, 2));
        x.set(0, 2, 7, 0);
        x.set(0, 0, 3, 1);
        Check.due("up to 9", 0, x.swap(0, 0, 2));
        Check.due("9", 9, x.tosses(0, 0, 0));
        Check.due("to its own", 0, x.tosses(0, 0, 1));
        Check.due("1", 1, x.tosses(0, 2, 0));
        Check.due("to the other", 1, x.tosses(0, 2, 1));
        x.set(0, 0, 0, 0);
        Check.due("is 0", -5, x.swap(0, 0, 1));
        Check.due("is 0", -5, x.swap(0, 1, 0));

        JuggledPost y = Check.told(ALONE);
        Check.due("shift", 3, y.shift(0, 2));
        Check.due("153", 1, y.tosses(0, 0, 0));
        Check.due("153", 5, y.tosses(0, 1, 0));
        Check.due("153", 3, y.tosses(0, 2, 0));
        Check.due("shift by nothing", 3, y.shift(0, 0));
        Check.due("no throw", -2, y.shift(0, 3));
        Check.due("no throw", -2, y.shift(0, -1));
        Check.due("no roof", -2, y.shift(2, 0));
        Check.due("rows unlike", -5, y.exchange(0, 0, 1, 0));
        exchanged();
    }

    // 38
    private static void exchanged() {
        JuggledPost x = Check.told("roofs 3;throws 0 4 2;throws 1 5 to 2 3;throws 2 0 1;");
        Check.due("one roof", -2, x.exchange(0, 0, 0, 1));
        Check.due("no roof", -2, x.exchange(0, 0, 3, 1));
        Check.due("no throw", -2, x.exchange(0, 2, 1, 1));
        Check.due("no throw", -2, x.exchange(0, 0, 1, 2));
        Check.due("is 0", -5, x.exchange(0, 0, 2, 0));
        Check.due("is 0", -5, x.exchange(2, 0, 0, 0));
        Check.due("exchange", 0, x.exchange(0, 1, 1, 0));
        Check.due("5 and -1", 4, x.tosses(0, 1, 0));
        Check.due("to 2", 2, x.tosses(0, 1, 1));
        Check.due("2 and 1", 3, x.tosses(1, 0, 0));
        Check.due("to 0", 0, x.tosses(1, 0, 1));
        JuggledPost y = Check.told("roofs 2;throws 0 9 5;throws 1 1 9;");
        Check.due("below 1", -5, y.exchange(0, 1, 1, 0));
        Check.due("below 1", -5, y.exchange(1, 0, 0, 1));
        Check.due("above 9", -5, y.exchange(0, 0, 1, 1));
        Check.due("nothing happens", 5, y.tosses(0, 1, 0));
        Check.due("of one beat", 0, y.exchange(0, 0, 1, 0));
        Check.due("of one beat", 9, y.tosses(1, 0, 0));
        Check.due("where it came down", 0, y.tosses(1, 0, 1));
        Check.due("rows unlike", -5, Check.told("roofs 2;throws 0 3;throws 1 3 3;").exchange(0, 0, 1, 0));
    }

    // 12 .. 16
    private static void itIsKeptUp() {
        JuggledPost x = Check.told(ALONE);
        Check.due("keeps", 1, x.keeps());
        Check.due("no clash", -1, x.clash(0));
        Check.due("no clash", -1, x.clash(1));
        Check.due("no clash", -1, x.clash(2));
        Check.due("no what", -2, x.clash(3));
        Check.due("no what", -2, x.clash(-1));
        Check.due("balls", 6, x.balls());
        Check.due("5 of ahead of beat 0", 50, x.lands(0, 2));
        Check.due("1", 10, x.lands(0, 0));
        Check.due("3", 30, x.lands(0, 1));
        Check.due("4", 41, x.lands(1, 99_998));
        Check.due("2", 21, x.lands(1, 99_999));
        Check.due("no beat", -2, x.lands(0, 100_000));
        Check.due("no beat", -2, x.lands(0, -1));
        Check.due("no roof", -2, x.lands(2, 0));
        Check.due("air", 6, x.air(0));
        Check.due("air", 6, x.air(99_999));
        Check.due("no beat", -2, x.air(100_000));
        Check.due("no beat", -2, x.air(-1));
        x.set(0, 0, 4, 0);
        // 431: beat 1 of a row gets the 4 and the 3, beat 2 nothing
        Check.due("keeps", 0, x.keeps());
        Check.due("clash beat", 1, x.clash(0));
        Check.due("clash roof", 0, x.clash(1));
        Check.due("clash balls", 2, x.clash(2));
        Check.due("balls", -1, x.balls());
        Check.due("lands", -1, x.lands(0, 0));
        Check.due("lands nowhere", -2, x.lands(2, 0));
        Check.due("air", -1, x.air(0));
        Check.due("none comes down", 1, Check.told("roofs 1;throws 0 0 1 0;").clash(0));
        Check.due("none comes down", 0, Check.told("roofs 1;throws 0 0 1 0;").clash(2));
        Check.due("clash roof", 1, Check.told("roofs 2;throws 1 0 1;").clash(1));
        Check.due("a 0 gets one", 0, Check.told("roofs 2;throws 1 0 1;").clash(0));
        Check.due("a 0 gets one", 1, Check.told("roofs 2;throws 1 0 1;").clash(2));
        Check.due("nothing is kept up", 1, Check.told("roofs 2;").keeps());
        Check.due("no ball", 0, Check.told("roofs 2;").balls());
        Check.due("nothing comes down", -1, Check.told("roofs 2;").lands(0, 0));
        Check.due("no ball in the air", 0, Check.told("roofs 2;").air(0));
        Check.due("many come down", 6, Check.told("roofs 6;throws 0 1;throws 1 1 to 0;throws 2 2 to 0;throws 3 3 to 0;"
            + "throws 4 4 to 0;throws 5 9 to 0;").clash(2));
    }

    // 17 .. 20
    private static void ballsGo() {
        JuggledPost x = Check.told(PAIR);
        // a ball of roof 0 at 0: on 1 at 3, on 1 at 6, on 0 at 9, on 0 at 12
        int[] roofs = {0, 1, 1, 0, 0};
        for (int n = 0; n < 5; n++) {
            Check.due("ball's roof", roofs[n], x.ball(0, 0, n, 0));
            Check.due("ball's beat", 3 * n, x.ball(0, 0, n, 1));
        }
        Check.due("ball late", 99_999 + 600, x.ball(0, 99_999, 200, 1));
        Check.due("too many", -2, x.ball(0, 0, 201, 0));
        Check.due("below", -2, x.ball(0, 0, -1, 0));
        Check.due("no what", -2, x.ball(0, 0, 0, 2));
        Check.due("no beat", -2, x.ball(0, 100_000, 0, 0));
        Check.due("no roof", -2, x.ball(2, 0, 0, 0));
        Check.due("throws", 4, x.orbit(0, 0, 0));
        Check.due("heights", 12, x.orbit(0, 0, 1));
        Check.due("balls in it", 6, x.orbit(1, 99_999, 2));
        Check.due("roofs", 3, x.orbit(1, 1, 3));
        Check.due("no what", -2, x.orbit(0, 0, 4));
        Check.due("no beat", -2, x.orbit(0, -1, 0));
        Check.due("orbits", 1, x.orbits());
        Check.due("same now", 1, x.same(0, 4, 0, 4));
        Check.due("other now", 0, x.same(0, 4, 1, 4));
        Check.due("same", 1, x.same(0, 0, 1, 3));
        Check.due("same", 0, x.same(0, 0, 0, 3));
        Check.due("in the air", 0, x.same(0, 0, 0, 4));
        Check.due("same", 1, x.same(0, 0, 0, 12));
        Check.due("same late", 1, x.same(0, 3, 0, 99_999));
        Check.due("earlier", 0, x.same(1, 3, 0, 0));
        Check.due("no other", -2, x.same(0, 0, 2, 0));
        Check.due("no later", -2, x.same(0, 0, 0, 100_000));
        Check.due("no later", -2, x.same(0, 0, 0, -1));
        Check.due("no beat", -2, x.same(0, 100_000, 0, 0));
        Check.due("no roof", -2, x.same(2, 0, 0, 0));
        x = Check.told(ALONE);
        Check.due("orbits", 5, x.orbits());
        Check.due("throws", 2, x.orbit(0, 0, 0));
        Check.due("throws", 3, x.orbit(1, 0, 0));
        Check.due("balls in it", 2, x.orbit(1, 2, 2));
        Check.due("balls in it", 1, x.orbit(1, 1, 2));
        Check.due("roofs", 2, x.orbit(1, 1, 3));
        x = Check.told("roofs 1;throws 0 2 0;");
        Check.due("nothing is thrown", -1, x.ball(0, 1, 0, 0));
        Check.due("nothing is thrown", -1, x.orbit(0, 1, 0));
        Check.due("nothing is thrown", -1, x.same(0, 1, 0, 3));
        Check.due("nothing is thrown, earlier", -1, x.same(0, 1, 0, 0));
        Check.due("orbits", 1, x.orbits());
        x.set(0, 0, 1, 0);
        Check.due("not kept up", -1, x.ball(0, 0, 0, 0));
        Check.due("not kept up", -1, x.orbit(0, 0, 0));
        Check.due("not kept up", -1, x.same(0, 0, 0, 0));
        Check.due("not kept up", -1, x.orbits());
        Check.due("none such first", -2, x.ball(1, 0, 0, 0));
        Check.due("none such first", -2, x.orbit(1, 0, 0));
        Check.due("none such first", -2, x.same(0, 0, 1, 0));
        Check.due("no orbit", 0, Check.told("roofs 1;").orbits());
    }

    // 21
    private static void pairsCross() {
        JuggledPost x = Check.told(PAIR);
        Check.due("told twice as one", 1, x.crossings(0));
        Check.due("beat", 0, x.crossings(1));
        Check.due("lesser", 0, x.crossings(2));
        Check.due("greater", 1, x.crossings(3));
        Check.due("no what", -2, x.crossings(4));
        Check.due("no what", -2, x.crossings(-1));
        x.shift(1, 1);
        Check.due("none", 0, x.crossings(0));
        Check.due("none", -1, x.crossings(1));
        Check.due("none", -1, x.crossings(2));
        Check.due("none", -1, x.crossings(3));
        // rows of 2 and 3: 2 to 3 and 3 to 2 meet at beat 3 of 6 alone; it need not be kept up
        x = Check.told("roofs 4;cross 3 2;cross 0 1;throws 0 1 to 1;throws 1 2 to 0;throws 2 1 1 to 3;throws 3 4 to 2 1 1;");
        Check.due("crossings", 7, x.crossings(0));
        Check.due("first", 0, x.crossings(1));
        Check.due("lesser", 0, x.crossings(2));
        x.set(0, 0, 1, 2);
        Check.due("crossings", 1, x.crossings(0));
        Check.due("first", 3, x.crossings(1));
        Check.due("lesser", 2, x.crossings(2));
        Check.due("greater", 3, x.crossings(3));
        Check.due("not told", 0, Check.told("roofs 2;throws 0 3 to 1 3;throws 1 3 to 0 3;").crossings(0));
        x = Check.told("roofs 4;cross 2 3;cross 1 0;throws 0 1 to 1;throws 1 2 to 0;throws 2 1 to 3;throws 3 1 to 2;");
        Check.due("of one beat the lesser roof", 0, x.crossings(2));
    }

    // 22, 23
    private static void kindsAreSuited() {
        JuggledPost x = Check.told("roofs 2;throws 0 3 to 1 3;throws 1 3 3 to 0;");
        Check.due("right hand", 1, x.suits(0));
        Check.due("right hand", -1, x.unsuited(0));
        Check.due("left hand", 0, x.suits(1));
        Check.due("left hand", 1, x.unsuited(1));
        Check.due("no roof", -2, x.suits(2));
        Check.due("no roof", -2, x.unsuited(-1));
        x = Check.told("roofs 2;throws 0 3 to 1 3;throws 1 3 3 to 0;thrower 0 left;thrower 1 left;");
        Check.due("a left one at even beats", 1, x.suits(0));
        Check.due("a left one at odd beats", 1, x.unsuited(1));
        Check.due("in the second round", 3, Check.told("roofs 2;throws 0 3 to 1 3 3;").unsuited(0));
        x = Check.told("roofs 2;throws 0 5 to 1 5;throws 1 5 3 6;thrower 0 slow;thrower 1 slow;");
        Check.due("5 is slow", 1, x.suits(0));
        Check.due("6 is not", 2, x.unsuited(1));
        x.set(0, 1, 1, 1);
        Check.due("slow by the left hand", 1, x.unsuited(0));
        x = Check.told("roofs 3;thrower 0 blind;throws 0 3 to 1 3 to 1 9 9;throws 1 3 3 3 to 0 3;throws 2 2 1 1 1;");
        Check.due("blind by whichever hand", 1, x.suits(0));
        x.set(2, 3, 2, 0);
        Check.due("low to a blind one", 3, x.unsuited(0));
        Check.due("low to a blind one", 0, x.suits(0));
        x.set(2, 3, 3, 0);
        Check.due("3 is not low", 1, x.suits(0));
        x.set(0, 2, 1, 0);
        Check.due("low to itself", 2, x.unsuited(0));
        x = Check.told("roofs 2;thrower 0 learner;throws 0 0 3 0 3;");
        Check.due("alike", 1, x.suits(0));
        x.set(0, 2, 4, 0);
        Check.due("other than the first", 2, x.unsuited(0));
        x.set(0, 2, 3, 1);
        Check.due("alike by the right hand", 1, x.suits(0));
        x.set(0, 3, 3, 1);
        Check.due("alike by the left hand", 3, x.unsuited(0));
        Check.due("nothing suits all", 1, Check.told("roofs 1;thrower 0 learner;").suits(0));
    }

    // 24, 25
    private static void wagesAreDue() {
        JuggledPost x = Check.told("roofs 2;throws 0 3 to 1 4 1;");
        Check.due("wages", 0, x.wages(0, 0));
        Check.due("wages", 18, x.wages(0, 1));
        Check.due("wages", 34, x.wages(0, 2));
        Check.due("wages", 53, x.wages(0, 4));
        Check.due("wages", 3333 * 35 + 18, x.wages(0, 10_000));
        Check.due("no wages", 0, x.wages(1, 10_000));
        Check.due("too many", -2, x.wages(0, 10_001));
        Check.due("below", -2, x.wages(0, -1));
        Check.due("no roof", -2, x.wages(2, 1));
        x = Check.told("roofs 2;throws 0 3 to 1 3 0;throws 1 1 2 to 0;");
        Check.due("carries", 2, x.carries(0, 1));
        Check.due("carries to itself", 2, x.carries(0, 0));
        Check.due("carries", 3, x.carries(1, 0));
        Check.due("carries", 3, x.carries(1, 1));
        Check.due("no roof", -2, x.carries(2, 0));
        Check.due("no roof", -2, x.carries(0, -1));
    }

    // 26 .. 30, 41
    private static void lettersGo() {
        JuggledPost x = Check.told(PAIR);
        Check.due("roof", 1, x.letter(1, 0));
        Check.due("beat", 4, x.letter(1, 1));
        Check.due("goal", 0, x.letter(1, 2));
        Check.due("no what", -2, x.letter(1, 3));
        Check.due("no letter", -2, x.letter(2, 0));
        Check.due("no letter", -2, x.letter(-1, 0));
        Check.due("alone", 3, x.alone(0));
        Check.due("alone", 7, x.alone(1));
        Check.due("no letter", -2, x.alone(2));
        Check.due("soonest", 3, x.soonest(0, 0));
        Check.due("throws", 1, x.soonest(0, 1));
        Check.due("waits", 0, x.soonest(0, 2));
        Check.due("no what", -2, x.soonest(0, 3));
        Check.due("no letter", -2, x.soonest(2, 0));
        Check.due("way", 0, x.way(0, 0));
        Check.due("way", 41, x.way(1, 0));
        Check.due("not so many", -1, x.way(0, 1));
        Check.due("below", -2, x.way(0, -1));
        Check.due("no letter", -2, x.way(2, 0));
        // its ball: on 1 at 4, on 0 at 7, on 0 at 10, on 1 at 13
        Check.due("ahead of its beat", 0, x.readers(1, 3));
        Check.due("at its beat", 2, x.readers(1, 4));
        Check.due("in the air", 2, x.readers(1, 6));
        Check.due("come down", 3, x.readers(1, 7));
        Check.due("late", 3, x.readers(1, 99_999));
        Check.due("no beat", -2, x.readers(1, 100_000));
        Check.due("no letter", -2, x.readers(2, 0));
        Check.due("too late for it", -1, x.latest(1, 6));
        Check.due("latest", 4, x.latest(1, 7));
        Check.due("latest", 4, x.latest(1, 8));
        Check.due("latest", 6, x.latest(1, 9));
        Check.due("latest", 99_996, x.latest(0, 99_999));
        Check.due("latest", -1, x.latest(0, 0));
        Check.due("no beat", -2, x.latest(0, -1));
        Check.due("no beat", -2, x.latest(0, 100_000));
        Check.due("no letter", -2, x.latest(2, 0));
        lettersWait();
        lettersStay();
    }

    // 28, 29: by way of roof 2, for the straight one is slower; equal ones by fewest, then least beats
    private static void lettersWait() {
        JuggledPost x = Check.told("roofs 3;throws 0 0 9 to 1 0 1 to 2;throws 2 0 2 to 1;letter 0 at 2 to 1;");
        Check.due("soonest", 7, x.soonest(0, 0));
        Check.due("throws", 2, x.soonest(0, 1));
        Check.due("waits", 2, x.soonest(0, 2));
        Check.due("way", 30, x.way(0, 0));
        Check.due("way", 52, x.way(0, 1));
        Check.due("not so many", -1, x.way(0, 2));
        Check.due("latest", 3, x.latest(0, 7));
        Check.due("latest", 3, x.latest(0, 8));
        Check.due("latest", -1, x.latest(0, 6));
        Check.due("not kept up", -1, x.alone(0));
        Check.due("not kept up", -1, x.readers(0, 9));
        x = Check.told("roofs 3;throws 0 1 to 2 6 to 1 2 to 1;throws 2 1 to 1 1 1 2 to 1;letter 0 at 0 to 1;");
        Check.due("soonest", 4, x.soonest(0, 0));
        Check.due("one throw, late", 1, x.soonest(0, 1));
        Check.due("its wait", 2, x.soonest(0, 2));
        Check.due("its throw", 20, x.way(0, 0));
        x = Check.told("roofs 2;throws 0 4 to 1 3 to 1 2 to 1 1;letter 0 at 0 to 1;");
        Check.due("soonest", 4, x.soonest(0, 0));
        Check.due("the least beat", 0, x.way(0, 0));
        Check.due("no wait", 0, x.soonest(0, 2));
    }

    private static void lettersStay() {
        JuggledPost x = Check.told(ALONE);
        Check.due("never", -1, x.alone(0));
        Check.due("never", -1, x.soonest(0, 0));
        Check.due("never", -1, x.soonest(0, 1));
        Check.due("never", -1, x.soonest(0, 2));
        Check.due("never", -1, x.way(0, 0));
        Check.due("never", -1, x.latest(0, 99_999));
        Check.due("its own", 1, x.readers(0, 9999));
        x = Check.told("roofs 2;throws 0 0 2 to 1;throws 1 0 2 to 0;letter 0 at 2 to 1;letter 0 at 1 to 1;");
        Check.due("no ball", -1, x.alone(0));
        Check.due("no ball", -1, x.readers(0, 9));
        Check.due("no ball, ahead", -1, x.readers(0, 0));
        Check.due("a ball", 3, x.alone(1));
        Check.due("waits for one", 5, x.soonest(0, 0));
        Check.due("waits for one", 1, x.soonest(0, 2));
    }

    // 31, 32
    private static void ballsAreDropped() {
        JuggledPost x = Check.told(PAIR);
        // the ball of roof 0 at 0: on 1 at 3 and 6, on 0 at 9 and 12, on 1 at 15
        Check.due("misses", 3, x.misses(0, 0, 1));
        Check.due("itself later", 9, x.misses(0, 0, 0));
        Check.due("late", 100_002, x.misses(0, 99_999, 0));
        Check.due("no other", -2, x.misses(0, 0, 2));
        Check.due("no beat", -2, x.misses(0, 100_000, 0));
        Check.due("missed", 0, x.missed(0, 0, 1, 2));
        Check.due("missed", 1, x.missed(0, 0, 1, 3));
        Check.due("missed", 2, x.missed(0, 0, 1, 14));
        Check.due("missed", 3, x.missed(0, 0, 1, 15));
        Check.due("missed", 2, x.missed(0, 0, 0, 12));
        Check.due("missed", 0, x.missed(0, 0, 0, 0));
        Check.due("missed", 1667, x.missed(0, 0, 1, 10_000));
        Check.due("too many", -2, x.missed(0, 0, 1, 10_001));
        Check.due("below", -2, x.missed(0, 0, 1, -1));
        Check.due("no roof", -2, x.missed(2, 0, 1, 1));
        Check.due("no other", -2, x.missed(0, 0, -1, 1));
        Check.due("no beat", -2, x.missed(0, 100_000, 1, 1));
        Check.due("no beat", -2, x.missed(0, -1, 1, 1));
        Check.due("no roof", -2, x.misses(-1, 0, 1));
        x = Check.told(ALONE);
        Check.due("never", -1, x.misses(0, 0, 1));
        Check.due("never, as misses() has it", -1, x.missed(0, 0, 1, 100));
        Check.due("never, within no beats", -1, x.missed(0, 0, 1, 0));
        Check.due("not yet", 0, x.missed(0, 0, 0, 4));
        x.set(0, 0, 0, 0);
        Check.due("not kept up", -1, x.misses(0, 1, 0));
        Check.due("not kept up", -1, x.missed(0, 1, 0, 5));
        x = Check.told("roofs 1;throws 0 2 0;");
        Check.due("no ball", -1, x.misses(0, 1, 0));
        Check.due("no ball", -1, x.missed(0, 1, 0, 5));
    }

    // 33, 34, 35, 40
    private static void statesChange() {
        JuggledPost x = Check.told("roofs 4;throws 0 3;throws 1 5 1;throws 2 3 to 1;throws 3 5 3 1;");
        Check.due("ground state", 7, x.state(0, 0));
        Check.due("ahead of 5", 11, x.state(1, 0));
        Check.due("ahead of 1", 21, x.state(1, 1));
        Check.due("not solo", -1, x.state(2, 0));
        Check.due("no throw", -2, x.state(0, 1));
        Check.due("no throw", -2, x.state(1, -1));
        Check.due("no roof", -2, x.state(4, 0));
        // from 3 to 51: a 4, from 51 back: a 2
        Check.due("change", 1, x.change(0, 0, 1, 0));
        Check.due("a 4", 4, x.changes(0, 0, 1, 0, 0));
        Check.due("not so many", -1, x.changes(0, 0, 1, 0, 1));
        Check.due("below", -2, x.changes(0, 0, 1, 0, -1));
        Check.due("change", 2, x.change(0, 0, 1, 1));
        Check.due("a 4", 4, x.changes(0, 0, 1, 1, 0));
        Check.due("a 5", 5, x.changes(0, 0, 1, 1, 1));
        Check.due("change back", 1, x.change(1, 0, 0, 0));
        Check.due("a 2", 2, x.changes(1, 0, 0, 0, 0));
        Check.due("ground", 1, x.ground(1, 0));
        Check.due("ground", 2, x.ground(1, 1));
        Check.due("on the ground", 0, x.ground(0, 0));
        Check.due("no throw at all", 0, x.change(0, 0, 0, 0));
        Check.due("no throw at all", -1, x.changes(0, 0, 0, 0, 0));
        Check.due("not solo", -1, x.change(0, 0, 2, 0));
        Check.due("not solo", -1, x.changes(2, 0, 0, 0, 0));
        Check.due("not solo", -1, x.ground(2, 0));
        Check.due("no throw", -2, x.change(0, 0, 1, 2));
        Check.due("no throw", -2, x.change(0, 1, 1, 0));
        Check.due("no roof", -2, x.changes(0, 0, 4, 0, 0));
        Check.due("no throw", -2, x.ground(0, 1));
        x.set(0, 0, 4, 0);
        Check.due("four balls, not three", -1, x.change(0, 0, 1, 0));
        x.set(3, 0, 4, 3);
        Check.due("not kept up alone", -1, x.state(3, 0));
        Check.due("not kept up alone", -1, x.ground(3, 0));
        x = Check.told("roofs 3;throws 0 9;throws 1 0 0 9;");
        Check.due("nine balls", 511, x.state(0, 0));
        Check.due("on the ground", 0, x.ground(0, 0));
        Check.due("three, six, nine", 4 + 32 + 256, x.state(1, 0));
        Check.due("no ball", 0, x.state(2, 0));
        Check.due("no ball", 0, x.ground(2, 0));
    }

    // 36, 37
    private static void rowsAreCounted() {
        JuggledPost x = new JuggledPost();
        Check.due("rows", 37, x.rows(3, 3, 9));
        Check.due("rows", 5, x.rows(2, 3, 5));
        Check.due("rows", 1, x.rows(8, 0, 9));
        Check.due("rows", 255, x.rows(8, 1, 9));
        Check.due("rows", 1, x.rows(8, 9, 9));
        Check.due("rows", 0, x.rows(8, 9, 8));
        Check.due("rows", 1, x.rows(1, 0, 0));
        Check.due("rows", 0, x.rows(1, 1, 0));
        Check.due("no p", -2, x.rows(0, 1, 1));
        Check.due("no p", -2, x.rows(9, 1, 1));
        Check.due("no b", -2, x.rows(1, -1, 1));
        Check.due("no b", -2, x.rows(1, 10, 1));
        Check.due("no top", -2, x.rows(1, 1, -1));
        Check.due("no top", -2, x.rows(1, 1, 10));
        int[] least = {0, 0, 9};
        int[] low = {0, 4, 5};
        for (int n = 0; n < 3; n++) {
            Check.due("least", least[n], x.least(3, 3, 9, n));
            Check.due("least", low[n], x.least(3, 3, 5, n));
            Check.due("least", 3, x.least(3, 3, 3, n));
        }
        Check.due("none", -1, x.least(3, 4, 3, 0));
        Check.due("no n", -2, x.least(3, 4, 3, 3));
        Check.due("no n", -2, x.least(3, 3, 9, -1));
        Check.due("no p", -2, x.least(9, 3, 9, 0));
        Check.due("no b", -2, x.least(3, 10, 9, 0));
        Check.due("no top", -2, x.least(3, 3, 10, 0));
    }

    // 39
    private static void allGoesBackwards() {
        JuggledPost x = Check.told("roofs 2;throws 0 5 3 1;throws 1 2 1 0;");
        Check.due("not kept up", 0, x.keeps());
        Check.due("not kept up", -1, x.backwards());
        Check.due("nothing happens", 2, x.tosses(1, 0, 0));
        Check.due("above 8", -5, Check.told("roofs 2;throws 0 3 3 3;throws 1 3 3 3 3;").backwards());
        Check.due("not kept up, above 8", -1, Check.told("roofs 2;throws 0 3 2 1;throws 1 3 3 3 3;").backwards());
        x = Check.told("roofs 3;throws 0 4 2;throws 1 2;");
        Check.due("backwards", 2, x.backwards());
        Check.due("rows are as long as a round", 2, x.period(1));
        Check.due("rows are as long as a round", 2, x.period(2));
        // 531 comes down as 1, 3, 5 at beats 0, 1, 2 of a row; backwards 1, 5, 3
        x = Check.told("roofs 1;throws 0 5 3 1;");
        Check.due("backwards", 3, x.backwards());
        Check.due("153", 1, x.tosses(0, 0, 0));
        Check.due("153", 5, x.tosses(0, 1, 0));
        Check.due("153", 3, x.tosses(0, 2, 0));
        // 3 to 1 at 0 comes down on 1 at 3, so at 1 of a round; backwards 1 throws it at 2 less 1
        x = Check.told("roofs 2;throws 0 3 to 1 3;throws 1 5 to 0 1;");
        Check.due("keeps", 1, x.keeps());
        Check.due("backwards", 2, x.backwards());
        int[][] due = {{3, 0}, {5, 1}, {1, 1}, {3, 0}};
        for (int i = 0; i < 4; i++) {
            Check.due("height of " + i, due[i][0], x.tosses(i / 2, i % 2, 0));
            Check.due("goal of " + i, due[i][1], x.tosses(i / 2, i % 2, 1));
        }
        Check.due("keeps", 1, x.keeps());
        Check.due("nothing backwards", 1, Check.told("roofs 2;").backwards());
        x = Check.told("roofs 1;throws 0 0 2;");
        x.keep(0);
        Check.tell(x, "roofs 2;throws 0 3;throws 1 9;");
        x.back(0);
        Check.due("backwards", 2, x.backwards());
        Check.due("its own roofs", 1, x.count(0));
        Check.due("nothing comes down", 0, x.tosses(0, 0, 0));
        Check.due("2", 2, x.tosses(0, 1, 0));
    }

    // 42, 43
    private static void beatsAreBusy() {
        JuggledPost x = Check.told("roofs 3;throws 0 0 1;throws 1 0 0 1;throws 2 0 0 1;");
        Check.due("busiest", 5, x.busiest(0));
        Check.due("how many", 3, x.busiest(1));
        Check.due("no what", -2, x.busiest(2));
        Check.due("no what", -2, x.busiest(-1));
        Check.due("silent", 3, x.silent(0));
        Check.due("silent", 4, x.silent(1));
        Check.due("no roof", -2, x.silent(3));
        Check.due("the first", 2, Check.told("roofs 2;throws 0 0 0 1 1;").busiest(0));
        Check.due("none", 0, Check.told("roofs 2;").busiest(0));
        Check.due("none", 0, Check.told("roofs 2;").busiest(1));
        Check.due("silent", 1, Check.told("roofs 2;").silent(1));
    }

    // 44, 45: of seed 0 the first x are 12345, 1406932606, 654583775: draws 0, 68, 88
    private static void itGusts() {
        JuggledPost x = Check.told("roofs 2;throws 0 1;throws 1 3;gusts from 1 odds 1;");
        Check.due("no beats", 4, x.gusts(0, 0, 0));
        Check.due("no drop", -1, x.gusts(0, 0, 1));
        Check.due("no drop", -1, x.gusts(0, 0, 2));
        Check.due("one drops", 3, x.gusts(0, 1, 0));
        Check.due("at 0", 0, x.gusts(0, 1, 1));
        Check.due("of roof 0", 0, x.gusts(0, 1, 2));
        x = Check.told("roofs 2;throws 0 1;throws 1 3;gusts from 1 odds 69;");
        Check.due("two drop", 2, x.gusts(0, 1, 0));
        Check.due("the third stays, roof 0 has none", 2, x.gusts(0, 2, 0));
        x = Check.told("roofs 2;throws 0 1;throws 1 3;gusts from 3 odds 50;");
        Check.due("below odds, not at them", 3, Check.told("roofs 2;throws 0 1;throws 1 3;gusts from 1 odds 68;").gusts(0, 1, 0));
        Check.due("but for low ones", 3, x.gusts(0, 1, 0));
        Check.due("of roof 1", 1, x.gusts(0, 1, 2));
        Check.due("no seed", -2, x.gusts(-1, 0, 0));
        Check.due("no seed", -2, x.gusts(2_000_000_001, 0, 0));
        Check.due("no n", -2, x.gusts(0, 2001, 0));
        Check.due("no n", -2, x.gusts(0, -1, 0));
        Check.due("no what", -2, x.gusts(0, 0, 3));
        Check.due("the last seed", 4, x.gusts(2_000_000_000, 0, 0));
        Check.due("years", 0, x.years(0, 20, 0));
        Check.due("years", 20, x.years(2_000_000_000, 20, 2000));
        Check.due("years", 1, x.years(0, 1, 1));
        Check.due("no k", -2, x.years(0, 0, 0));
        Check.due("no k", -2, x.years(0, 21, 0));
        Check.due("no seed", -2, x.years(-1, 1, 0));
        Check.due("no n", -2, x.years(0, 1, 2001));
        x.set(0, 0, 2, 1);
        Check.due("not kept up", -1, x.gusts(0, 0, 0));
        Check.due("not kept up", -1, x.years(0, 1, 0));
        Check.due("none such first", -2, x.gusts(0, 0, 3));
        x = Check.told("roofs 1;throws 0 9;gusts from 9 odds 100;");
        Check.due("all drop", 0, x.gusts(7, 9, 0));
        Check.due("all but one", 1, x.gusts(7, 8, 0));
        x = Check.told("roofs 1;throws 0 9;");
        Check.due("no gusts", 9, x.gusts(7, 2000, 0));
    }

    // 51, 52, 53
    private static void slotsHoldRows() {
        JuggledPost x = Check.told("roofs 1;");
        Check.due("no slot", -2, x.row(4, 0, 0));
        Check.due("no slot", -2, x.row(-1, 0, 0));
        Check.due("no width", -2, x.row(0, 4, 0));
        Check.due("no width", -2, x.row(0, -1, 0));
        Check.due("too many", -2, x.row(0, 0, 61));
        Check.due("below", -3, x.row(0, 0, -1));
        Check.due("no slot first", -2, x.row(4, 0, -1));
        Check.due("the slot stays", -6, x.write(0, 0, 0));
        Check.due("row", 0, x.row(0, 0, 60));
        Check.due("row", 0, x.row(1, 0, 2));
        Check.due("no slot", -2, x.write(4, 0, 0));
        Check.due("nothing", -6, x.write(2, 0, 0));
        Check.due("beyond", -7, x.write(0, 60, 0));
        Check.due("beyond", -7, x.write(0, -1, 0));
        Check.due("write", 0, x.write(0, 59, 30));
        Check.due("paste", 0, x.paste(0, 59, 1, 1, 1));
        // 0 and 3 can't be kept up, 3 and 3 can
        Check.due("pasted", 0, x.judge(1, 0));
        Check.due("paste onto itself", 0, x.paste(1, 1, 1, 0, 1));
        Check.due("pasted", 1, x.judge(1, 0));
        Check.due("cut to a byte", 0, x.write(1, 0, 256 * 7 + 30));
        Check.due("cut", 1, x.judge(1, 0));
        x.row(1, 1, 1);
        Check.due("all 0", 1, x.takes(1, 0));
        Check.due("all 0", 0, x.tosses(0, 0, 0));
        x.write(1, 0, 256 + 30);
        Check.due("not cut to a byte", -2, x.judge(1, 0));
        x.write(1, 0, 65536L * 3 + 30);
        Check.due("cut to two", 1, x.judge(1, 0));
        x.row(1, 2, 1);
        x.write(1, 0, 65536L + 30);
        Check.due("not cut to two", -2, x.judge(1, 0));
        x.write(1, 0, (1L << 32) + 30);
        Check.due("cut to four", 1, x.judge(1, 0));
        x.row(1, 3, 1);
        x.write(1, 0, (1L << 32) + 30);
        Check.due("not cut", -2, x.judge(1, 0));
        pasted(x);
    }

    private static void pasted(JuggledPost x) {
        x.row(0, 0, 3);
        x.row(1, 1, 3);
        x.row(2, 0, 2);
        Check.due("no slot", -2, x.paste(4, 0, 0, 0, 0));
        Check.due("no slot", -2, x.paste(0, 0, -1, 0, 0));
        Check.due("nothing", -6, x.paste(0, 0, 3, 0, 0));
        Check.due("nothing", -6, x.paste(3, 0, 0, 0, 0));
        Check.due("widths", -8, x.paste(0, 9, 1, 0, 0));
        Check.due("beyond", -7, x.paste(0, 1, 0, 0, 3));
        Check.due("beyond", -7, x.paste(0, 0, 2, 1, 2));
        Check.due("beyond", -7, x.paste(0, -1, 2, 0, 1));
        Check.due("beyond", -7, x.paste(0, 0, 2, -1, 1));
        Check.due("beyond", -7, x.paste(0, 0, 2, 0, -1));
        Check.due("beyond", -7, x.paste(0, 4, 2, 0, 0));
        Check.due("beyond", -7, x.paste(0, Integer.MAX_VALUE, 2, 0, Integer.MAX_VALUE));
        Check.due("none", 0, x.paste(0, 3, 2, 2, 0));
        // 5 3 1 moved on by one, as they were: 5 5 3
        x.write(0, 0, 50);
        x.write(0, 1, 30);
        x.write(0, 2, 10);
        Check.due("overlapping", 0, x.paste(0, 0, 0, 1, 2));
        Check.due("takes", 3, x.takes(0, 0));
        Check.due("as they were", 5, x.tosses(0, 0, 0));
        Check.due("as they were", 5, x.tosses(0, 1, 0));
        Check.due("as they were", 3, x.tosses(0, 2, 0));
        Check.due("overlapping", 0, x.paste(0, 1, 0, 0, 2));
        x.takes(0, 0);
        Check.due("as they were", 5, x.tosses(0, 0, 0));
        Check.due("as they were", 3, x.tosses(0, 1, 0));
        Check.due("as they were", 3, x.tosses(0, 2, 0));
    }

    // 46, 47
    private static void throwsAreTaken() {
        JuggledPost x = Check.told("roofs 2;throws 0 3;throws 1 3;");
        Check.due("nothing", -6, x.judge(0, 0));
        Check.due("nothing", -6, x.takes(0, 1));
        Check.due("no roof first", -2, x.judge(0, 2));
        Check.due("no slot", -2, x.judge(4, 0));
        Check.due("no slot", -2, x.takes(-1, 0));
        x.row(0, 0, 0);
        Check.due("too few", -2, x.judge(0, 0));
        x.row(0, 0, 9);
        Check.due("too many", -2, x.judge(0, 0));
        x.row(0, 3, 2);
        x.write(0, 0, 40);
        x.write(0, 1, 20);
        Check.due("42", 1, x.judge(0, 0));
        Check.due("42 to another", 0, x.judge(0, 1));
        Check.due("in thought", 1, x.period(0));
        x.write(0, 0, 30);
        Check.due("32", 0, x.judge(0, 0));
        Check.due("taken all the same", 2, x.takes(0, 0));
        Check.due("taken", 2, x.period(0));
        Check.due("taken", 2, x.tosses(0, 1, 0));
        Check.due("taken", 0, x.keeps());
        long[] wrong = {1, 2, 12, 100, -10, -1, 99, 96, Long.MIN_VALUE, Long.MAX_VALUE};
        for (long v : wrong) {
            x.write(0, 0, v);
            Check.due("no throw " + v, -2, x.judge(0, 0));
            Check.due("no throw " + v, -2, x.takes(0, 0));
        }
        Check.due("all stays", 3, x.tosses(0, 0, 0));
        x.write(0, 0, 0);
        Check.due("0 of its own", 1, x.judge(0, 0));
        Check.due("0 of another", -2, x.judge(0, 1));
        x.write(0, 0, 91);
        Check.due("9 to 1", 2, x.takes(0, 0));
        Check.due("9 to 1", 1, x.tosses(0, 0, 1));
        Check.due("9 to 1", 9, x.tosses(0, 0, 0));
    }

    // 48
    private static void thingsAreCounted() {
        JuggledPost x = Check.told("roofs 5;throws 1 3;throws 4 0 3 to 1;cross 0 1;cross 1 0;cross 3 4;"
            + "letter 0 at 0 to 1;gusts from 4 odds 7;");
        int[] due = {5, 1, 2, 8, 0, 4, 7, 18, 0};
        for (int what = 0; what < 9; what++) {
            Check.due("count " + what, due[what], x.count(what));
        }
        x.feed(0, 0, 0, 0, 0);
        Check.due("tape", 20, x.count(4));
        x.row(3, 0, 0);
        x.row(3, 0, 1);
        Check.due("slots", 1, x.count(8));
        Check.due("others", -1, x.count(9));
        Check.due("others", -1, x.count(-1));
        x.set(1, 0, 0, 1);
        Check.due("throwers", 16, x.count(7));
    }

    // 49, 50
    private static void imagesAreKept() {
        JuggledPost x = new JuggledPost();
        Check.due("no image", -2, x.keep(3));
        Check.due("no image", -2, x.keep(-1));
        Check.due("no image", -2, x.back(3));
        Check.due("no image", -2, x.back(-1));
        Check.due("nothing", -6, x.back(2));
        Check.due("keep no city", 0, x.keep(0));
        Check.tell(x, PAIR);
        Check.due("keep", 0, x.keep(2));
        Check.due("nothing", -6, x.back(1));
        x.set(0, 0, 9, 0);
        x.backwards();
        Check.due("not kept up", 0, x.keeps());
        Check.due("back", 0, x.back(2));
        Check.due("kept up", 1, x.keeps());
        Check.due("rows", 3, x.tosses(0, 0, 0));
        Check.tell(x, "roofs 1;thrower 0 left;gusts from 1 odds 9;");
        Check.due("back", 0, x.back(2));
        int[] due = {2, 2, 1, 7, 0, 9, 0, 3};
        for (int what = 0; what < 8; what++) {
            Check.due("count " + what, due[what], x.count(what));
        }
        Check.due("letter", 4, x.letter(1, 1));
        Check.due("hand", 0, x.tosses(0, 0, 2));
        x.row(0, 0, 1);
        Check.due("back to none", 0, x.back(0));
        Check.due("no city", -2, x.turn());
        Check.due("no lines", 0, x.count(3));
        Check.due("slots stay", 1, x.count(8));
        Check.due("back again", 0, x.back(2));
        Check.due("kept up", 1, x.keeps());
    }
}
