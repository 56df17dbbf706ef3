import java.util.function.Supplier;
import java.util.function.ToLongFunction;

/**
 * An object with something of everything, for calls at a boundary: what they answer, and that a refused call
 * leaves all that later calls can show. No object here is asked more than the 512 calls that are promised.
 */
final class Stage {
    /** ROUND 6, twenty balls, eleven ORBITS; it can be kept up. */
    static final String TEXT = "roofs 6;throws 0 5 3 1;throws 1 3 to 2 3;throws 2 3 to 1 3;throws 3 9;"
        + "throws 4 1 to 5;throws 5 1 to 4;thrower 1 left;thrower 2 slow;thrower 3 blind;thrower 4 learner;"
        + "cross 1 2;cross 5 4;letter 0 at 1 to 1;letter 1 at 0 to 2;letter 4 at 9999 to 5;gusts from 3 odds 50;";

    /** A call on an object, with one argument left open. */
    interface AskAt {
        long of(JuggledPost x, int v);
    }

    private Stage() {
    }

    /** IMAGE 1 and SLOTS 0 to 2 are taken; a FAULT was told, and a text with another one lies on the TAPE. */
    static JuggledPost made() {
        return made(TEXT);
    }

    static JuggledPost made(String text) {
        JuggledPost x = Check.told(text);
        x.keep(1);
        x.row(0, 0, 3);
        x.write(0, 0, 50);
        x.write(0, 1, 30);
        x.write(0, 2, 10);
        x.row(1, 3, 0);
        x.row(2, 2, 60);
        Check.due("the fault of the stage", -4, Check.tell(x, "roofs 9;"));
        x.end(0);
        Check.tape(x, "roofs 1;;");
        return x;
    }

    /** The same, but for a throw of ROOF 0: it can't be kept up. */
    static JuggledPost broken() {
        JuggledPost x = made();
        Check.due("the row is broken", 50, x.set(0, 0, 4, 0));
        return x;
    }

    /** The same SLOTS and TAPE, IMAGE 1 and the FAULT, but no CITY. */
    static JuggledPost bare() {
        JuggledPost x = made();
        x.end(0);
        Check.due("no city", 0, x.city());
        Check.due("the fault of the stage", -4, Check.tell(x, "roofs 9;"));
        x.end(0);
        Check.tape(x, "roofs 1;;");
        return x;
    }

    static void refused(String call, long answer, ToLongFunction<JuggledPost> ask) {
        refused(Stage::made, call, answer, ask);
    }

    /** The call answers so, and all stays: the object shows what one shows that was never asked. */
    static void refused(Supplier<JuggledPost> maker, String call, long answer, ToLongFunction<JuggledPost> ask) {
        JuggledPost x = maker.get();
        JuggledPost untouched = maker.get();
        Check.due(call, answer, ask.applyAsLong(x));
        Check.due("the fault behind " + call, untouched.fault(0), x.fault(0));
        Check.due("its place behind " + call, untouched.fault(1), x.fault(1));
        alike("behind " + call, untouched, x);
    }

    /** An answer that is no refusal, of a call that changes nothing. */
    static void asked(String call, long answer, ToLongFunction<JuggledPost> ask) {
        refused(call, answer, ask);
    }

    static void alike(String how, JuggledPost want, JuggledPost got) {
        String due = picture(want);
        String seen = picture(got);
        Check.holds(how + " it shows " + seen + ", due is " + due, due.equals(seen));
    }

    /** The last value that is taken on either side, and the first ones that are refused. */
    static void bounds(String call, int low, int high, long refusal, long[] taken, AskAt ask) {
        Check.due(call + " at " + low, taken[0], ask.of(made(), low));
        Check.due(call + " at " + high, taken[1], ask.of(made(), high));
        outside(call, low, high, refusal, ask);
    }

    static void outside(String call, int low, int high, long refusal, AskAt ask) {
        for (int v : new int[] {low - 1, high + 1, Integer.MIN_VALUE, Integer.MAX_VALUE}) {
            refused(call + " at " + v, refusal, x -> ask.of(x, v));
        }
    }

    static long[] at(long low, long high) {
        return new long[] {low, high};
    }

    /** All that later calls can show but the FAULT; the object is used up by it. */
    private static String picture(JuggledPost x) {
        StringBuilder shown = new StringBuilder("counts");
        for (int what = 0; what <= 8; what++) {
            show(shown, x.count(what));
        }
        for (int roof = 0; roof < 6; roof++) {
            shown.append(" roof ").append(roof);
            show(shown, x.tosses(roof, 0, 2), x.suits(roof), x.unsuited(roof));
            showRow(shown, x, roof);
        }
        shown.append(" letters");
        for (int letter = 0; letter < 8; letter++) {
            show(shown, x.letter(letter, 0), x.letter(letter, 1), x.letter(letter, 2));
        }
        show(shown, x.crossings(0), x.crossings(1), x.crossings(2), x.crossings(3));
        showSlots(shown, x);
        shown.append(" images");
        for (int k = 0; k < 3; k++) {
            show(shown, x.back(k), x.count(0), x.count(3), x.period(0), x.tosses(0, 0, 0), x.tosses(0, 0, 1));
        }
        shown.append(" tape");
        show(shown, x.city(), x.fault(0), x.fault(1), x.count(0), x.count(3), x.count(4));
        return shown.toString();
    }

    private static void showSlots(StringBuilder shown, JuggledPost x) {
        shown.append(" slots");
        for (int slot = 0; slot < 4; slot++) {
            // which numbers it has, and whether its WIDTH is that of others
            for (int i : new int[] {0, 1, 2, 3, 7, 8, 58, 59, 60}) {
                show(shown, x.paste(slot, i, slot, i, 1));
            }
            show(shown, x.paste(slot, 0, (slot + 1) % 4, 0, 0), x.paste(slot, 0, (slot + 2) % 4, 0, 0));
            show(shown, x.judge(slot, 0), x.takes(slot, 0));
            showRow(shown, x, 0);
        }
    }

    private static void showRow(StringBuilder shown, JuggledPost x, int roof) {
        int length = x.period(roof);
        show(shown, length);
        for (int i = 0; i < length; i++) {
            show(shown, x.tosses(roof, i, 0), x.tosses(roof, i, 1));
        }
    }

    private static void show(StringBuilder shown, int... answers) {
        for (int answer : answers) {
            shown.append(' ').append(answer);
        }
    }
}
