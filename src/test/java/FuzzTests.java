import java.lang.reflect.InvocationTargetException;
import java.lang.reflect.Method;
import java.util.ArrayList;
import java.util.Arrays;
import java.util.Comparator;
import java.util.List;
import java.util.Random;

/** Any call in any state: none throws, and what was changed is what is asked about next. */
final class FuzzTests {
    private static final Random DICE = new Random(512);
    private static final int[] EDGES = {Integer.MIN_VALUE, -2, -1, 5, 6, 7, 8, 9, 10, 59, 60, 61, 200, 201, 1600, 2000, 2001,
        9999, 10_000, 10_001, 99_999, 100_000, 2_000_000_000, 2_000_000_001, Integer.MAX_VALUE};

    public static void main(String[] args) throws Exception {
        Method[] methods = Arrays.stream(JuggledPost.class.getDeclaredMethods())
            .filter(m -> (m.getModifiers() & java.lang.reflect.Modifier.PUBLIC) != 0)
            .sorted(Comparator.comparing(Method::getName)).toArray(Method[]::new);
        for (int run = 0; run < 400; run++) {
            anyCalls(methods);
        }
        for (int run = 0; run < 600; run++) {
            editedRows();
        }
        for (int run = 0; run < 3000; run++) {
            brokenTexts();
        }
        Check.close("FuzzTests");
    }

    private static void anyCalls(Method[] methods) throws Exception {
        JuggledPost x = new JuggledPost();
        if (DICE.nextInt(10) > 0) {
            Check.tell(x, Model.random(DICE).text(DICE));
        }
        boolean mostlyProper = DICE.nextInt(3) > 0;
        for (int k = 0; k < 400; k++) {
            Method m = methods[DICE.nextInt(methods.length)];
            if (m.getName().equals("city") && DICE.nextInt(10) > 0) {
                continue;
            }
            Object[] given = new Object[m.getParameterCount()];
            for (int i = 0; i < given.length; i++) {
                int v = any(mostlyProper);
                given[i] = m.getParameterTypes()[i] == long.class ? (Object) (long) v : (Object) v;
            }
            try {
                m.invoke(x, given);
                Check.holds("a call", true);
            } catch (InvocationTargetException e) {
                Check.holds(m.getName() + Arrays.toString(given) + " threw " + e.getCause(), false);
            }
        }
    }

    private static int any(boolean mostlyProper) {
        int sort = DICE.nextInt(20);
        if (sort < (mostlyProper ? 16 : 8)) {
            return DICE.nextInt(4);
        }
        if (sort < 17) {
            return DICE.nextInt(60);
        }
        return sort < 19 ? EDGES[DICE.nextInt(EDGES.length)] : DICE.nextInt();
    }

    private static void editedRows() {
        Model m = Model.random(DICE);
        m.pairs.clear();
        JuggledPost x = Check.told(m.text(DICE));
        List<Model> kept = new ArrayList<>(Arrays.asList(null, null, null));
        for (int k = 0; k < 12; k++) {
            m = edit(m, x, kept);
            String how = "edited, " + m.text(DICE);
            Check.due("turn " + how, m.round(), x.turn());
            Check.due("keeps " + how, m.clash() == null ? 1 : 0, x.keeps());
            Check.due("balls " + how, m.clash() == null ? m.balls() : -1, x.balls());
            // all rows at the last alone: an object is good for 512 calls
            sameRow(m, x, k % m.roofs, how);
            for (int r = 0; r < m.roofs && k == 11; r++) {
                sameRow(m, x, r, how);
            }
        }
    }

    private static void sameRow(Model m, JuggledPost x, int r, String how) {
        Check.due("period " + how, m.rows.get(r).size(), x.period(r));
        for (int i = 0; i < m.rows.get(r).size(); i++) {
            Check.due("height " + how, m.at(r, i)[0], x.tosses(r, i, 0));
            Check.due("goal " + how, m.at(r, i)[1], x.tosses(r, i, 1));
        }
    }

    private static Model edit(Model m, JuggledPost x, List<Model> kept) {
        int r = DICE.nextInt(m.roofs);
        int s = DICE.nextInt(m.roofs);
        List<int[]> row = m.rows.get(r);
        List<int[]> others = m.rows.get(s);
        int i = DICE.nextInt(row.size());
        int k = DICE.nextInt(row.size());
        int h = DICE.nextInt(10);
        switch (DICE.nextInt(7)) {
            case 0:
                boolean none = h == 0 && s != r;
                Check.due("set", none ? -2 : 10 * row.get(i)[0] + row.get(i)[1], x.set(r, i, h, s));
                if (!none) {
                    row.set(i, new int[] {h, s});
                }
                return m;
            case 1:
                Check.due("swap", i == k ? -2 : trade(row, i, row, k), x.swap(r, i, k));
                return m;
            case 2:
                int j = DICE.nextInt(others.size());
                boolean unlike = row.size() != others.size();
                Check.due("exchange", r == s ? -2 : unlike ? -5 : trade(row, i, others, j), x.exchange(r, i, s, j));
                return m;
            case 3:
                Check.due("shift", row.size(), x.shift(r, i));
                java.util.Collections.rotate(row, -i);
                return m;
            case 4:
                taken(m, x, r);
                return m;
            case 5:
                Check.due("keep", 0, x.keep(i % 3));
                kept.set(i % 3, copy(m));
                return m;
            default:
                Check.due("back", kept.get(k % 3) == null ? -6 : 0, x.back(k % 3));
                return kept.get(k % 3) == null ? m : copy(kept.get(k % 3));
        }
    }

    private static int trade(List<int[]> row, int i, List<int[]> others, int k) {
        int[] a = row.get(i);
        int[] b = others.get(k);
        int up = b[0] + k - i;
        int down = a[0] + i - k;
        if (a[0] == 0 || b[0] == 0 || up < 1 || up > 9 || down < 1 || down > 9) {
            return -5;
        }
        row.set(i, new int[] {up, b[1]});
        others.set(k, new int[] {down, a[1]});
        return 0;
    }

    private static void taken(Model m, JuggledPost x, int r) {
        int n = 1 + DICE.nextInt(8);
        int slot = DICE.nextInt(4);
        Model other = copy(m);
        other.rows.get(r).clear();
        Check.due("row", 0, x.row(slot, DICE.nextInt(4), n));
        for (int i = 0; i < n; i++) {
            int h = DICE.nextInt(10);
            int goal = h == 0 ? r : DICE.nextInt(m.roofs);
            Check.due("write", 0, x.write(slot, i, 10 * h + goal));
            other.rows.get(r).add(new int[] {h, goal});
        }
        Check.due("judge", other.clash() == null ? 1 : 0, x.judge(slot, r));
        Check.due("judged in thought", m.clash() == null ? 1 : 0, x.keeps());
        Check.due("takes", n, x.takes(slot, r));
        m.rows.set(r, other.rows.get(r));
    }

    private static Model copy(Model m) {
        Model c = new Model();
        c.roofs = m.roofs;
        for (List<int[]> row : m.rows) {
            c.rows.add(new ArrayList<>(row));
        }
        c.kinds.addAll(m.kinds);
        c.pairs.addAll(m.pairs);
        c.letters.addAll(m.letters);
        c.from = m.from;
        c.odds = m.odds;
        return c;
    }

    /** A text with some bytes changed: what is told is a fault or a city, and a fault's place is in the text. */
    private static void brokenTexts() {
        StringBuilder text = new StringBuilder(Model.random(DICE).text(DICE));
        for (int k = DICE.nextInt(3); k >= 0 && text.length() > 0; k--) {
            int i = DICE.nextInt(text.length());
            int how = DICE.nextInt(4);
            if (how == 0) {
                text.deleteCharAt(i);
            } else if (how == 1) {
                text.setCharAt(i, "0123456789;; \nabto\t".charAt(DICE.nextInt(19)));
            } else if (how == 2) {
                text.insert(i, "0123456789;; \nabto\t".charAt(DICE.nextInt(19)));
            } else {
                text.setLength(i);
            }
        }
        JuggledPost x = new JuggledPost();
        if (text.length() > 1600) {
            return;
        }
        int lines = Check.tell(x, text.toString());
        int[] due = Grammar.fault(text.toString());
        Check.due("fault of " + text, due[0], x.fault(0));
        Check.due("place in " + text, due[1], x.fault(1));
        Check.due("lines of " + text, due[0] != 0 ? -4 : text.chars().filter(c -> c == ';').count(), lines);
    }
}
