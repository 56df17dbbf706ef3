/** SLOTS of the terms and promises 46 to 53 at their boundaries: rows of numbers, counts, images. */
final class SlotEdgeTests {
    public static void main(String[] args) {
        withoutACity();
        slotsAreOpened();
        slotsAreOpenedAnew();
        numbersAreWritten();
        numbersAreCut();
        numbersArePasted();
        pastesAreBeyond();
        pastesAreAskedInOrder();
        pastesOverlap();
        rowsAreJudged();
        rowsAreTaken();
        rowsAreOneToEight();
        numbersAreThrows();
        thingsAreCounted();
        imagesAreKept();
        imagesAreGoneBackTo();
        Check.close("SlotEdgeTests");
    }

    private static void withoutACity() {
        Stage.refused(Stage::bare, "judge", -2, x -> x.judge(0, 0));
        Stage.refused(Stage::bare, "takes", -2, x -> x.takes(0, 0));
        // both apply: there is no ROOF, and the SLOT has nothing
        Stage.refused(Stage::bare, "judge", -2, x -> x.judge(3, 0));
        Stage.refused(Stage::bare, "takes", -2, x -> x.takes(3, 0));
        JuggledPost x = Stage.bare();
        int[] due = {0, 0, 0, 0, 9, 0, 0, 0, 3};
        for (int what = 0; what <= 8; what++) {
            Check.due("count " + what, due[what], x.count(what));
        }
        Check.due("no others", -1, x.count(9));
    }

    /** What the SLOT has, as throws of ROOF 0, which is lost by it. */
    private static void has(JuggledPost x, int slot, int... due) {
        Check.due("takes", due.length, x.takes(slot, 0));
        for (int i = 0; i < due.length; i++) {
            Check.due("number " + i, due[i], 10 * x.tosses(0, i, 0) + x.tosses(0, i, 1));
        }
    }

    // promise 51
    private static void slotsAreOpened() {
        Stage.bounds("row of a slot", 0, 3, -2, Stage.at(0, 0), (x, v) -> x.row(v, 0, 1));
        Stage.bounds("row of a width", 0, 3, -2, Stage.at(0, 0), (x, v) -> x.row(0, v, 1));
        for (int slot = 0; slot < 4; slot++) {
            int asked = slot;
            Stage.refused("above 60", -2, x -> x.row(asked, 0, 61));
            Stage.refused("above 60", -2, x -> x.row(asked, 3, Integer.MAX_VALUE));
            Stage.refused("below 0", -3, x -> x.row(asked, 0, -1));
            Stage.refused("below 0", -3, x -> x.row(asked, 3, Integer.MIN_VALUE));
        }
        // both apply
        Stage.refused("no slot, below 0", -2, x -> x.row(4, 0, -1));
        Stage.refused("no slot, below 0", -2, x -> x.row(-1, 0, -1));
        Stage.refused("no width, below 0", -2, x -> x.row(0, 4, -1));
        Stage.refused("no width, below 0", -2, x -> x.row(0, -1, -1));
        JuggledPost x = new JuggledPost();
        for (int slot = 0; slot < 4; slot++) {
            Check.due("a slot more", slot, x.count(8));
            Check.due("row", 0, x.row(slot, slot, 60));
            Check.due("the last number", 0, x.write(slot, 59, 0));
            Check.due("none behind it", -7, x.write(slot, 60, 0));
        }
        Check.due("all slots", 4, x.count(8));
        Check.due("a row of no numbers", 0, x.row(2, 0, 0));
        Check.due("is a row", 4, x.count(8));
        Check.due("has no number", -7, x.write(2, 0, 0));
        Check.due("a row of one", 0, x.row(2, 0, 1));
        Check.due("has one", 0, x.write(2, 0, 0));
        Check.due("has but one", -7, x.write(2, 1, 0));
    }

    // promise 51: all 0, in place of another one
    private static void slotsAreOpenedAnew() {
        JuggledPost x = Check.told("roofs 1;");
        x.row(0, 0, 8);
        for (int i = 0; i < 8; i++) {
            x.write(0, i, 10 * (i + 1));
        }
        has(x, 0, 10, 20, 30, 40, 50, 60, 70, 80);
        Check.due("shorter", 0, x.row(0, 0, 3));
        has(x, 0, 0, 0, 0);
        x.write(0, 0, 70);
        Check.due("longer", 0, x.row(0, 0, 8));
        has(x, 0, 0, 0, 0, 0, 0, 0, 0, 0);
        Check.due("as long", 0, x.row(0, 0, 1));
        has(x, 0, 0);
        x.row(1, 1, 1);
        Check.due("unlike widths", -8, x.paste(0, 0, 1, 0, 1));
        Check.due("of another width", 0, x.row(0, 1, 1));
        Check.due("like widths", 0, x.paste(0, 0, 1, 0, 1));
        Check.due("nothing is lost by a refusal", 0, x.write(0, 0, 90));
        Check.due("above 60", -2, x.row(0, 0, 61));
        Check.due("below 0", -3, x.row(0, 0, -1));
        has(x, 0, 90);
    }

    // promise 52
    private static void numbersAreWritten() {
        Stage.outside("write to a slot", 0, 3, -2, (x, v) -> x.write(v, 0, 20));
        Stage.bounds("write of i", 0, 2, -7, Stage.at(0, 0), (x, v) -> x.write(0, v, 20));
        Stage.bounds("write of i", 0, 59, -7, Stage.at(0, 0), (x, v) -> x.write(2, v, 20));
        Stage.refused("a row of no numbers", -7, x -> x.write(1, 0, 20));
        Stage.refused("a row of no numbers", -7, x -> x.write(1, -1, 20));
        Stage.refused("nothing", -6, x -> x.write(3, 0, 20));
        // both apply
        Stage.refused("nothing, no number", -6, x -> x.write(3, -1, 20));
        Stage.refused("nothing, no number", -6, x -> x.write(3, 60, 20));
        Stage.refused("no slot, no number", -2, x -> x.write(4, -1, 20));
        JuggledPost x = Stage.made();
        Check.due("the first", 0, x.write(0, 0, 21));
        Check.due("the last", 0, x.write(0, 2, 90));
        has(x, 0, 21, 30, 90);
        x = Stage.made();
        Check.due("the last of sixty", 0, x.write(2, 59, 70));
        Check.due("and the last but one", 0, x.write(2, 58, 60));
        x.row(3, 2, 2);
        Check.due("paste", 0, x.paste(2, 58, 3, 0, 2));
        has(x, 3, 60, 70);
    }

    private static void cut(int width, long v, int due) {
        JuggledPost x = Check.told("roofs 1;throws 0 1;");
        x.row(0, width, 1);
        Check.due("write " + v, 0, x.write(0, 0, v));
        if (due < 0) {
            Check.due(v + " of width " + width + " is no throw", -2, x.judge(0, 0));
            Check.due(v + " of width " + width + " is no throw", -2, x.takes(0, 0));
            Check.due("its own row stays", 1, x.tosses(0, 0, 0));
        } else {
            Check.due(v + " of width " + width, 1, x.takes(0, 0));
            Check.due(v + " of width " + width, due / 10, x.tosses(0, 0, 0));
        }
    }

    // promise 52: cut to its WIDTH: 1, 2, 4 or 8 bytes
    private static void numbersAreCut() {
        long[] turns = {1L << 8, 1L << 16, 1L << 32};
        for (int width = 0; width <= 3; width++) {
            cut(width, 90, 90);
            cut(width, 0, 0);
            cut(width, -10, -1);
            for (int i = 0; i < 3; i++) {
                int kept = width <= i ? 50 : -1;
                cut(width, turns[i] + 50, kept);
                cut(width, 50 - turns[i], kept);
                cut(width, 7 * turns[i] + 50, kept);
                cut(width, turns[i] - 1, -1);
                cut(width, (turns[i] >> 1) + 50, width < i ? 50 : -1);
                cut(width, 50 - (turns[i] >> 1), width < i ? 50 : -1);
            }
            cut(width, Long.MIN_VALUE + 50, width < 3 ? 50 : -1);
            cut(width, Long.MIN_VALUE, width < 3 ? 0 : -1);
            cut(width, Long.MAX_VALUE, -1);
            cut(width, -1, -1);
        }
    }

    // promise 53
    private static void numbersArePasted() {
        Stage.outside("paste of a slot", 0, 3, -2, (x, v) -> x.paste(v, 0, 0, 0, 1));
        Stage.outside("paste to a slot", 0, 3, -2, (x, v) -> x.paste(0, 0, v, 0, 1));
        JuggledPost x = Check.told("roofs 1;");
        x.row(0, 0, 4);
        x.row(3, 0, 3);
        for (int i = 0; i < 4; i++) {
            x.write(0, i, 10 * (i + 1));
        }
        Check.due("to the last slot", 0, x.paste(0, 1, 3, 0, 3));
        has(x, 3, 20, 30, 40);
        Check.due("from the last slot", 0, x.paste(3, 2, 0, 0, 1));
        has(x, 0, 40, 20, 30, 40);
        Check.due("none, behind the last of both", 0, x.paste(0, 4, 3, 3, 0));
        has(x, 0, 40, 20, 30, 40);
        has(x, 3, 20, 30, 40);
        x.row(1, 0, 60);
        x.row(2, 0, 60);
        x.write(1, 0, 10);
        x.write(1, 59, 20);
        Check.due("all sixty", 0, x.paste(1, 0, 2, 0, 60));
        Check.due("the first and the last", 0, x.paste(2, 59, 3, 1, 1));
        Check.due("the first and the last", 0, x.paste(2, 0, 3, 0, 1));
        has(x, 3, 10, 20, 40);
        Check.due("none of a row of none", 0, x.row(1, 0, 0));
        Check.due("none of a row of none", 0, x.paste(1, 0, 1, 0, 0));
        Check.due("one of a row of none", -7, x.paste(1, 0, 1, 0, 1));
    }

    /** Two rows of one WIDTH, of four and of three numbers. */
    private static JuggledPost pair() {
        JuggledPost x = Stage.made();
        x.row(2, 0, 4);
        for (int i = 0; i < 4; i++) {
            x.write(2, i, 60 + 10 * (i % 4));
        }
        return x;
    }

    private static void beyond(int slot, int i, int to, int k, int n) {
        Stage.refused(SlotEdgeTests::pair, "paste " + slot + " " + i + " " + to + " " + k + " " + n, -7,
            x -> x.paste(slot, i, to, k, n));
    }

    // promise 53: -7, and nothing happens
    private static void pastesAreBeyond() {
        Check.due("just within", 0, pair().paste(2, 1, 0, 0, 3));
        beyond(2, 2, 0, 0, 3);
        Check.due("just within", 0, pair().paste(0, 0, 2, 1, 3));
        beyond(0, 0, 2, 2, 3);
        beyond(2, 0, 0, 0, 4);
        beyond(0, 0, 2, 0, 4);
        beyond(2, 3, 0, 0, 2);
        beyond(2, 0, 0, 2, 2);
        // places without a number are beyond, though none are put there
        Stage.refused(SlotEdgeTests::pair, "none behind the last", 0, x -> x.paste(2, 4, 0, 3, 0));
        beyond(2, 5, 0, 0, 0);
        beyond(2, 0, 0, 4, 0);
        beyond(2, -1, 0, 0, 1);
        beyond(2, 0, 0, -1, 1);
        beyond(2, 0, 0, 0, -1);
        beyond(2, -1, 0, 0, 0);
        beyond(2, 0, 0, -1, 0);
        beyond(2, 3, 0, 3, -1);
        beyond(2, Integer.MAX_VALUE, 0, 0, 1);
        beyond(2, Integer.MAX_VALUE, 0, 0, Integer.MAX_VALUE);
        beyond(2, 0, 0, Integer.MAX_VALUE, Integer.MAX_VALUE);
        beyond(2, 1, 0, 1, Integer.MAX_VALUE);
        beyond(2, Integer.MIN_VALUE, 0, 0, Integer.MIN_VALUE);
        beyond(2, Integer.MIN_VALUE, 0, Integer.MIN_VALUE, Integer.MAX_VALUE);
        beyond(2, 0, 2, 1, 4);
        beyond(2, 1, 2, 0, 4);
    }

    // promise 53: -2, then -6, then -8, then -7
    private static void pastesAreAskedInOrder() {
        Stage.refused("no slot, nothing", -2, x -> x.paste(4, 0, 3, 0, 1));
        Stage.refused("nothing, no slot", -2, x -> x.paste(3, 0, 4, 0, 1));
        Stage.refused("no slot, beyond", -2, x -> x.paste(-1, -1, 0, 0, 1));
        Stage.refused("nothing", -6, x -> x.paste(3, 0, 0, 0, 1));
        Stage.refused("nothing", -6, x -> x.paste(0, 0, 3, 0, 1));
        Stage.refused("nothing at all", -6, x -> x.paste(3, 0, 3, 0, 0));
        Stage.refused("nothing, beyond", -6, x -> x.paste(3, -1, 0, 0, 1));
        Stage.refused("nothing, beyond", -6, x -> x.paste(0, 9, 3, 0, 1));
        Stage.refused("unlike widths", -8, x -> x.paste(0, 0, 2, 0, 1));
        Stage.refused("unlike widths, none", -8, x -> x.paste(0, 0, 2, 0, 0));
        Stage.refused("unlike widths, beyond", -8, x -> x.paste(0, 3, 2, 0, 1));
        Stage.refused("unlike widths, below 0", -8, x -> x.paste(0, 0, 2, 0, -1));
        Stage.refused("unlike widths, below 0", -8, x -> x.paste(0, -1, 1, -1, 1));
        for (int width = 0; width <= 3; width++) {
            for (int other = 0; other <= 3; other++) {
                JuggledPost x = new JuggledPost();
                x.row(0, width, 1);
                x.row(1, other, 1);
                Check.due("paste of " + width + " to " + other, width == other ? 0 : -8, x.paste(0, 0, 1, 0, 1));
            }
        }
    }

    // promise 53: or its own, as they were
    private static void pastesOverlap() {
        for (int i = 0; i <= 2; i++) {
            for (int k = 0; k <= 2; k++) {
                JuggledPost x = Check.told("roofs 1;");
                int[] due = new int[5];
                x.row(1, 1, 5);
                for (int j = 0; j < 5; j++) {
                    due[j] = 10 * (j + 1);
                    x.write(1, j, due[j]);
                }
                System.arraycopy(due.clone(), i, due, k, 3);
                Check.due("onto its own", 0, x.paste(1, i, 1, k, 3));
                has(x, 1, due);
            }
        }
    }

    // promise 46
    private static void rowsAreJudged() {
        Stage.outside("judge of a slot", 0, 3, -2, (x, v) -> x.judge(v, 0));
        Stage.outside("judge of a roof", 0, 5, -2, (x, v) -> x.judge(0, v));
        Stage.refused("judge in thought", 1, x -> x.judge(0, 0));
        Stage.refused("judge in thought, not kept up", 0, x -> x.judge(0, 1));
        Stage.refused("nothing", -6, x -> x.judge(3, 0));
        Stage.refused("nothing", -6, x -> x.judge(3, 5));
        // both apply
        Stage.refused("no roof, nothing", -2, x -> x.judge(3, 6));
        Stage.refused("no roof, nothing", -2, x -> x.judge(3, -1));
        Stage.refused("no slot, no roof", -2, x -> x.judge(4, 6));
        Stage.refused(Stage::broken, "kept up by it", 1, x -> x.judge(0, 0));
        Stage.refused(Stage::broken, "not kept up still", 0, x -> x.judge(0, 3));
        JuggledPost x = Stage.made();
        x.row(3, 0, 1);
        x.write(3, 0, 14);
        Check.due("of the last slot and roof", 1, x.judge(3, 5));
        Check.due("of the first roof", 0, x.judge(3, 0));
    }

    // promise 47
    private static void rowsAreTaken() {
        Stage.outside("takes of a slot", 0, 3, -2, (x, v) -> x.takes(v, 0));
        Stage.outside("takes of a roof", 0, 5, -2, (x, v) -> x.takes(0, v));
        Stage.refused("nothing", -6, x -> x.takes(3, 0));
        Stage.refused("no roof, nothing", -2, x -> x.takes(3, 6));
        Stage.refused("no roof, nothing", -2, x -> x.takes(3, -1));
        Stage.refused("its own row again", 3, x -> x.takes(0, 0));
        JuggledPost x = Stage.made();
        x.row(3, 0, 2);
        x.write(3, 0, 14);
        x.write(3, 1, 95);
        Check.due("of the last slot and roof", 2, x.takes(3, 5));
        Check.due("its throws", 2, x.period(5));
        Check.due("its throws", 1, x.tosses(5, 0, 0));
        Check.due("its throws", 4, x.tosses(5, 0, 1));
        Check.due("its throws", 9, x.tosses(5, 1, 0));
        Check.due("its throws", 5, x.tosses(5, 1, 1));
        Check.due("taken, though it can't be kept up", 0, x.keeps());
        Check.due("the others stay", 3, x.period(0));
        Check.due("the slot stays", 2, x.takes(3, 4));
        Check.due("the image stays", 0, x.back(1));
        Check.due("the image stays", 1, x.period(5));
    }

    private static JuggledPost ofSize(int n) {
        JuggledPost x = Stage.made();
        Check.due("row", 0, x.row(3, 1, n));
        for (int i = 0; i < n; i++) {
            x.write(3, i, 10 * (1 + i % 9));
        }
        return x;
    }

    // promises 46, 47: 1 .. 8
    private static void rowsAreOneToEight() {
        for (int n = 0; n <= 60; n += n < 10 ? 1 : 25) {
            int size = n;
            if (n < 1 || n > 8) {
                Stage.refused(() -> ofSize(size), "judge of " + n, -2, x -> x.judge(3, 0));
                Stage.refused(() -> ofSize(size), "takes of " + n, -2, x -> x.takes(3, 0));
                continue;
            }
            // 1, 2, .. come down at 1, 3, ..: of an even number two at one BEAT
            Stage.refused(() -> ofSize(size), "judge of " + n, n % 2, x -> x.judge(3, 0));
            JuggledPost x = ofSize(n);
            Check.due("takes of " + n, n, x.takes(3, 0));
            Check.due("its throws", n, x.period(0));
            Check.due("the last", n, x.tosses(0, n - 1, 0));
            Check.due("and round", 1, x.tosses(0, n, 0));
        }
    }

    private static JuggledPost ofNumbers(int roofs, long... numbers) {
        JuggledPost x = Stage.made("roofs " + roofs + ";throws 0 2;");
        x.row(3, 3, numbers.length);
        for (int i = 0; i < numbers.length; i++) {
            x.write(3, i, numbers[i]);
        }
        return x;
    }

    // promises 46, 47: a number is no such throw (asked last)
    private static void numbersAreThrows() {
        for (int roofs = 1; roofs <= 6; roofs++) {
            for (int roof = 0; roof < roofs; roof += Math.max(1, roofs - 1)) {
                for (long v = -12; v <= 112; v++) {
                    boolean good = v >= 0 && v <= 99 && v % 10 < roofs && (v >= 10 || v == roof);
                    JuggledPost x = ofNumbers(roofs, v, 10 + roof);
                    Check.due(v + " of roof " + roof + " of " + roofs, good ? 2 : -2, x.takes(3, roof));
                    if (good) {
                        Check.due("its height", v / 10, x.tosses(roof, 0, 0));
                        Check.due("its goal", v % 10, x.tosses(roof, 0, 1));
                    }
                }
            }
        }
        long[] wrong = {-1, -10, 6, 9, 96, 100, 106, 1L << 32, (1L << 32) + 10, Long.MIN_VALUE, Long.MAX_VALUE};
        for (long v : wrong) {
            // the first, and the last of eight, with all others good
            Stage.refused(() -> ofNumbers(6, v), "judge " + v, -2, x -> x.judge(3, 0));
            Stage.refused(() -> ofNumbers(6, v), "takes " + v, -2, x -> x.takes(3, 0));
            Stage.refused(() -> ofNumbers(6, 10, 10, 10, 10, 10, 10, 10, v), "judge " + v, -2, x -> x.judge(3, 0));
            Stage.refused(() -> ofNumbers(6, 10, 10, 10, 10, 10, 10, 10, v), "takes " + v, -2, x -> x.takes(3, 0));
        }
        Stage.refused(() -> ofNumbers(6, 1), "0 to another", -2, x -> x.takes(3, 0));
        Stage.refused(() -> ofNumbers(6, 0), "0 to another", -2, x -> x.takes(3, 1));
        Stage.refused(() -> ofNumbers(2, 12), "to no roof", -2, x -> x.takes(3, 0));
        Stage.refused(() -> ofNumbers(2, 12), "to no roof", -2, x -> x.judge(3, 0));
        Stage.refused(() -> ofNumbers(2, 12), "no such roof, to no roof", -2, x -> x.judge(3, 2));
        // numbers that are no throw are not asked about ahead of how many there are
        Stage.refused(() -> ofNumbers(2, 12, 12, 12, 12, 12, 12, 12, 12, 12), "too many, no throw", -2, x -> x.judge(3, 0));
    }

    // promise 48
    private static void thingsAreCounted() {
        Stage.bounds("count what", 0, 8, -1, Stage.at(6, 3), (x, v) -> x.count(v));
        JuggledPost x = Stage.made();
        int[] due = {6, 3, 2, 17, 9, 3, 50, 63, 3};
        for (int what = 0; what <= 8; what++) {
            Check.due("count " + what, due[what], x.count(what));
        }
        x.set(3, 0, 0, 3);
        Check.due("roof 3 throws nothing", 63 - 8, x.count(7));
        x.set(0, 0, 0, 0);
        x.set(0, 1, 0, 0);
        Check.due("roof 0 throws a 1", 63 - 8, x.count(7));
        x.set(0, 2, 0, 0);
        Check.due("roof 0 throws nothing", 63 - 8 - 1, x.count(7));
        JuggledPost none = new JuggledPost();
        none.feed(0, 0, 0, 0, 0);
        none.row(3, 0, 0);
        int[] bare = {0, 0, 0, 0, 20, 0, 0, 0, 1};
        for (int what = 0; what <= 8; what++) {
            Check.due("count without a city, " + what, bare[what], none.count(what));
        }
        Check.due("others without a city", -1, none.count(9));
        Check.due("others without a city", -1, none.count(-1));
        Check.due("most letters", 8, Check.told("roofs 2;" + "letter 0 at 0 to 1;".repeat(8)).count(1));
        Check.due("most roofs that throw", 63, Stage.made().count(7));
    }

    // promise 49
    private static void imagesAreKept() {
        Stage.outside("keep of k", 0, 2, -2, (x, v) -> x.keep(v));
        Stage.outside("back to k", 0, 2, -2, (x, v) -> x.back(v));
        Stage.refused("it has nothing", -6, x -> x.back(0));
        Stage.refused("it has nothing", -6, x -> x.back(2));
        Stage.refused("kept again", 0, x -> x.keep(1));
        Stage.refused("back to what it is", 0, x -> x.back(1));
        for (int k = 0; k < 3; k++) {
            JuggledPost x = Stage.made();
            Check.due("keep", 0, x.keep(k));
            x.set(0, 0, 9, 5);
            x.end(8);
            x.city();
            Check.due("one roof", 1, x.count(0));
            Check.due("back", 0, x.back(k));
            Check.due("as it was kept", 6, x.count(0));
            Check.due("as it was kept", 5, x.tosses(0, 0, 0));
            Check.due("the others have nothing still", -6, x.back(k == 0 ? 2 : 0));
        }
        // another in its place
        JuggledPost x = Stage.made();
        x.set(0, 0, 8, 0);
        Check.due("keep anew", 0, x.keep(1));
        x.set(0, 0, 2, 0);
        Check.due("back", 0, x.back(1));
        Check.due("as it was kept anew", 8, x.tosses(0, 0, 0));
        Check.due("what is set then is not kept", 80, x.set(0, 0, 7, 0));
        Check.due("back", 0, x.back(1));
        Check.due("as it was kept anew", 8, x.tosses(0, 0, 0));
    }

    // promise 50
    private static void imagesAreGoneBackTo() {
        // all that is told comes back: kinds, pairs, letters, gusts, rows; TAPE, SLOTS and FAULT stay as they are
        JuggledPost x = Stage.made();
        x.end(8);
        Check.due("another city", 1, x.city());
        Check.due("back", 0, x.back(1));
        Check.due("the fault is of the latest city", 0, x.fault(0));
        Check.due("the tape is as it is", 0, x.count(4));
        Check.tape(x, "roofs 1;;");
        Stage.alike("back", Stage.made(), x);
        x = Stage.made();
        x.row(3, 0, 1);
        Check.due("back", 0, x.back(1));
        Check.due("slots are as they are", 4, x.count(8));
        Check.due("the tape is as it is", 9, x.count(4));
        Check.due("the fault is as it is", 2, x.fault(0));
        // an IMAGE of no CITY has that
        x = new JuggledPost();
        Check.due("nothing", -6, x.back(0));
        Check.due("keep no city", 0, x.keep(0));
        Check.due("back to none", 0, x.back(0));
        Check.tell(x, "roofs 2;throws 0 3;");
        Check.due("a city", 1, x.turn());
        Check.due("back to none", 0, x.back(0));
        Check.due("no city", -2, x.turn());
        Check.due("no lines", 0, x.count(3));
        Check.due("no from", 0, x.count(5));
        Check.due("nothing in others", -6, x.back(1));
        Check.due("nothing in others", -6, x.back(2));
    }
}
