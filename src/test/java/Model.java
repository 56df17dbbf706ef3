import java.util.ArrayList;
import java.util.Arrays;
import java.util.HashMap;
import java.util.HashSet;
import java.util.List;
import java.util.Map;
import java.util.Random;
import java.util.Set;

/** The same city in the plainest way, for the program's answers to be held against; only for proper arguments. */
final class Model {
    static final String[] KINDS = {"plain", "left", "slow", "blind", "learner"};

    int roofs;
    /** Of each roof throws of height and goal. */
    final List<List<int[]>> rows = new ArrayList<>();
    final List<String> kinds = new ArrayList<>();
    final List<int[]> pairs = new ArrayList<>();
    final List<int[]> letters = new ArrayList<>();
    int from = 9;
    int odds = 0;

    static Model random(Random dice) {
        Model m = new Model();
        m.roofs = 1 + dice.nextInt(6);
        int length = 1 + dice.nextInt(8);
        boolean mixed = dice.nextInt(4) == 0;
        for (int r = 0; r < m.roofs; r++) {
            List<int[]> row = new ArrayList<>();
            int n = mixed ? 1 + dice.nextInt(8) : length;
            for (int i = 0; i < n; i++) {
                int h = dice.nextInt(10);
                row.add(new int[] {h, h == 0 || dice.nextInt(3) > 0 ? r : dice.nextInt(m.roofs)});
            }
            m.rows.add(row);
            m.kinds.add(KINDS[dice.nextInt(5)]);
        }
        if (!mixed && dice.nextInt(5) > 0) {
            m.makeKept(dice, length);
            if (dice.nextInt(3) == 0) {
                m.tellRowsOver(dice);
            }
        } else if (mixed && dice.nextInt(4) > 0) {
            m.makeKeptAlone(dice);
        }
        if (m.roofs > 1) {
            for (int i = dice.nextInt(7); i > 0; i--) {
                m.pairs.add(unlike(dice, m.roofs));
            }
            for (int i = dice.nextInt(9); i > 0; i--) {
                int[] two = unlike(dice, m.roofs);
                m.letters.add(new int[] {two[0], dice.nextInt(dice.nextBoolean() ? 20 : 10000), two[1]});
            }
        }
        if (dice.nextBoolean()) {
            m.from = 1 + dice.nextInt(9);
            m.odds = dice.nextInt(dice.nextBoolean() ? 4 : 101);
        }
        return m;
    }

    private static int[] unlike(Random dice, int n) {
        int a = dice.nextInt(n);
        int b = (a + 1 + dice.nextInt(n - 1)) % n;
        return new int[] {a, b};
    }

    /** Begins with a row that is kept up and exchanges where throws come down, so that it stays so. */
    private void makeKept(Random dice, int length) {
        for (int r = 0; r < roofs; r++) {
            int h = dice.nextInt(10);
            for (int i = 0; i < length; i++) {
                rows.get(r).set(i, new int[] {h, r});
            }
        }
        for (int k = 0; k < 60; k++) {
            int r = dice.nextInt(roofs);
            int s = dice.nextInt(3) == 0 ? dice.nextInt(roofs) : r;
            int i = dice.nextInt(length);
            int j = dice.nextInt(length);
            int[] a = rows.get(r).get(i);
            int[] b = rows.get(s).get(j);
            int ha = b[0] + j - i;
            int hb = a[0] + i - j;
            boolean fits = ha >= 0 && hb >= 0 && ha <= 9 && hb <= 9 && (ha > 0 || b[1] == r) && (hb > 0 || a[1] == s);
            if (fits && (r != s || i != j)) {
                rows.get(r).set(i, new int[] {ha, b[1]});
                rows.get(s).set(j, new int[] {hb, a[1]});
            }
        }
    }

    /** Rows told several times over: the same throws by rows of unlike lengths, in a longer ROUND. */
    private void tellRowsOver(Random dice) {
        for (List<int[]> row : rows) {
            List<int[]> once = new ArrayList<>(row);
            for (int times = dice.nextInt(4); times > 0 && row.size() + once.size() <= 8; times--) {
                row.addAll(once);
            }
        }
    }

    private void makeKeptAlone(Random dice) {
        for (int r = 0; r < roofs; r++) {
            int n = rows.get(r).size();
            int h = dice.nextInt(10);
            int[] row = new int[n];
            Arrays.fill(row, h);
            for (int k = 0; k < 20; k++) {
                int i = dice.nextInt(n);
                int j = dice.nextInt(n);
                int a = row[j] + j - i;
                int b = row[i] + i - j;
                if (i != j && a >= 0 && b >= 0 && a <= 9 && b <= 9) {
                    row[i] = a;
                    row[j] = b;
                }
            }
            for (int i = 0; i < n; i++) {
                rows.get(r).set(i, new int[] {row[i], r});
            }
        }
    }

    String text(Random dice) {
        List<String> lines = new ArrayList<>();
        for (int r = 0; r < roofs; r++) {
            if (!kinds.get(r).equals("plain") || dice.nextBoolean()) {
                lines.add("thrower " + r + " " + kinds.get(r) + ";");
            }
            StringBuilder row = new StringBuilder("throws " + r);
            for (int[] t : rows.get(r)) {
                row.append(' ').append(t[0]);
                if (t[1] != r || dice.nextInt(9) == 0) {
                    row.append(" to ").append(t[1]);
                }
            }
            lines.add(row.append(";").toString());
        }
        if (from != 9 || odds != 0) {
            lines.add("gusts from " + from + " odds " + odds + ";");
        }
        java.util.Collections.shuffle(lines, dice);
        for (int[] p : pairs) {
            lines.add(dice.nextInt(lines.size() + 1), "cross " + p[0] + " " + p[1] + "; ");
        }
        for (int[] l : letters) {
            lines.add("letter " + l[0] + " at " + l[1] + " to " + l[2] + ";\n");
        }
        return "roofs " + roofs + ";" + String.join("", lines);
    }

    int[] at(int r, int beat) {
        List<int[]> row = rows.get(r);
        return row.get(Math.floorMod(beat, row.size()));
    }

    int round() {
        int n = 1;
        while (true) {
            boolean whole = true;
            for (List<int[]> row : rows) {
                whole &= n % row.size() == 0;
            }
            if (whole) {
                return n;
            }
            n++;
        }
    }

    /** All that comes down on a roof at a beat, as height and roof. */
    List<int[]> down(int r, int beat) {
        List<int[]> found = new ArrayList<>();
        for (int s = 0; s < roofs; s++) {
            for (int t = beat - 9; t < beat; t++) {
                if (at(s, t)[0] > 0 && t + at(s, t)[0] == beat && at(s, t)[1] == r) {
                    found.add(new int[] {beat - t, s});
                }
            }
        }
        return found;
    }

    /** Beat, roof and balls of the first clash; null: there is none. */
    int[] clash() {
        int n = round();
        for (int t = 0; t < n; t++) {
            for (int r = 0; r < roofs; r++) {
                int balls = down(r, t).size();
                if (balls != (at(r, t)[0] > 0 ? 1 : 0)) {
                    return new int[] {t, r, balls};
                }
            }
        }
        return null;
    }

    int balls() {
        int sum = 0;
        int n = round();
        for (int t = 0; t < n; t++) {
            for (int r = 0; r < roofs; r++) {
                sum += at(r, t)[0];
            }
        }
        return sum / n;
    }

    /** Roofs and beats at which a ball is, from its throw on up to a beat. */
    List<int[]> path(int r, int beat, int upTo) {
        List<int[]> found = new ArrayList<>();
        int t = beat;
        while (t <= upTo) {
            found.add(new int[] {r, t});
            int[] thrown = at(r, t);
            r = thrown[1];
            t += thrown[0];
        }
        return found;
    }

    Set<Integer> orbit(int r, int beat) {
        int n = round();
        Set<Integer> found = new HashSet<>();
        int t = beat;
        while (found.add(r * 1000 + t % n)) {
            int[] thrown = at(r, t);
            r = thrown[1];
            t += thrown[0];
        }
        return found;
    }

    int orbits() {
        Set<Set<Integer>> all = new HashSet<>();
        int n = round();
        for (int r = 0; r < roofs; r++) {
            for (int t = 0; t < n; t++) {
                if (at(r, t)[0] > 0) {
                    all.add(orbit(r, t));
                }
            }
        }
        return all.size();
    }

    int[] crossings() {
        int number = 0;
        int[] first = {0, -1, -1, -1};
        int n = round();
        for (int t = 0; t < n; t++) {
            for (int a = 0; a < roofs; a++) {
                for (int b = a + 1; b < roofs; b++) {
                    if (at(a, t)[1] == b && at(b, t)[1] == a && isPair(a, b)) {
                        if (number == 0) {
                            first = new int[] {0, t, a, b};
                        }
                        number++;
                    }
                }
            }
        }
        first[0] = number;
        return first;
    }

    boolean isPair(int a, int b) {
        for (int[] p : pairs) {
            if (p[0] == a && p[1] == b || p[0] == b && p[1] == a) {
                return true;
            }
        }
        return false;
    }

    int pairCount() {
        int number = 0;
        for (int a = 0; a < roofs; a++) {
            for (int b = 0; b < a; b++) {
                number += isPair(a, b) ? 1 : 0;
            }
        }
        return number;
    }

    int hand(int r, int beat) {
        return kinds.get(r).equals("left") ? (beat + 1) % 2 : beat % 2;
    }

    int unsuited(int r) {
        int n = 2 * round();
        for (int t = 0; t < n; t++) {
            if (!suits(r, t)) {
                return t;
            }
        }
        return -1;
    }

    private boolean suits(int r, int t) {
        String kind = kinds.get(r);
        if (kind.equals("blind")) {
            for (int s = 0; s < roofs; s++) {
                if (at(s, t)[1] == r && (at(s, t)[0] == 1 || at(s, t)[0] == 2)) {
                    return false;
                }
            }
            return true;
        }
        int right = kind.equals("left") ? 1 : 0;
        if (at(r, t)[1] != r && hand(r, t) != right) {
            return false;
        }
        if (kind.equals("slow") && at(r, t)[0] > 5) {
            return false;
        }
        if (kind.equals("learner")) {
            for (int[] thrown : rows.get(r)) {
                if (thrown[0] > 0) {
                    return at(r, t)[0] == 0 || at(r, t)[0] == thrown[0];
                }
            }
        }
        return true;
    }

    long wages(int r, int n) {
        long sum = 0;
        for (int t = 0; t < n; t++) {
            sum += (long) at(r, t)[0] * at(r, t)[0] * (at(r, t)[1] == r ? 1 : 2);
        }
        return sum;
    }

    /** Forwards, of each roof and beat the best way to it; null: it can't come there. */
    List<int[]> soonest(int r, int beat, int goal, int[] arrival) {
        Map<Integer, List<int[]>> best = new HashMap<>();
        best.put(beat * 10 + r, new ArrayList<>());
        for (int t = beat; t < beat + 150; t++) {
            if (best.containsKey(t * 10 + goal)) {
                arrival[0] = t;
                return best.get(t * 10 + goal);
            }
            for (int s = 0; s < roofs; s++) {
                List<int[]> way = best.get(t * 10 + s);
                if (way == null) {
                    continue;
                }
                offer(best, (t + 1) * 10 + s, way);
                if (at(s, t)[0] > 0) {
                    List<int[]> longer = new ArrayList<>(way);
                    longer.add(new int[] {t, s});
                    offer(best, (t + at(s, t)[0]) * 10 + at(s, t)[1], longer);
                }
            }
        }
        arrival[0] = -1;
        return null;
    }

    private static void offer(Map<Integer, List<int[]>> best, int place, List<int[]> way) {
        List<int[]> old = best.get(place);
        if (old == null || isBetter(way, old)) {
            best.put(place, way);
        }
    }

    private static boolean isBetter(List<int[]> a, List<int[]> b) {
        if (a.size() != b.size()) {
            return a.size() < b.size();
        }
        for (int i = 0; i < a.size(); i++) {
            if (a.get(i)[0] != b.get(i)[0]) {
                return a.get(i)[0] < b.get(i)[0];
            }
        }
        return false;
    }

    int latest(int[] letter, int by) {
        int[] arrival = new int[1];
        for (int t = by; t >= letter[1] && t > by - 120; t--) {
            if (soonest(letter[0], t, letter[2], arrival) != null && arrival[0] <= by) {
                return t;
            }
        }
        return -1;
    }

    int state(int r, int i) {
        List<int[]> row = rows.get(r);
        Set<Integer> met = new HashSet<>();
        for (int k = 0; k < row.size(); k++) {
            if (row.get(k)[1] != r || !met.add((k + row.get(k)[0]) % row.size())) {
                return -1;
            }
        }
        int bits = 0;
        for (int k = i - 100; k < i; k++) {
            int falls = k + at(r, k)[0];
            if (at(r, k)[0] > 0 && falls >= i) {
                bits |= 1 << (falls - i);
            }
        }
        return bits;
    }

    /** The least of the shortest rows of throws from a state to another; null: there is none. */
    static List<Integer> change(int from, int goal) {
        Map<Integer, List<Integer>> ways = new HashMap<>();
        List<Integer> queue = new ArrayList<>();
        ways.put(from, new ArrayList<>());
        queue.add(from);
        for (int k = 0; k < queue.size(); k++) {
            int s = queue.get(k);
            for (int h = 0; h <= 9; h++) {
                boolean fits = (s & 1) == 0 ? h == 0 : h > 0 && (s >> h & 1) == 0;
                int after = h == 0 ? s >> 1 : (s | 1 << h) >> 1;
                if (fits && !ways.containsKey(after)) {
                    List<Integer> longer = new ArrayList<>(ways.get(s));
                    longer.add(h);
                    ways.put(after, longer);
                    queue.add(after);
                }
            }
        }
        return ways.get(goal);
    }

    /** Balls left, beat and roof of the first drop. */
    int[] gusts(long seed, int n) {
        List<int[]> balls = new ArrayList<>();
        for (int r = 0; r < roofs; r++) {
            for (int t = -9; t < 0; t++) {
                if (at(r, t)[0] > 0 && t + at(r, t)[0] >= 0) {
                    balls.add(new int[] {at(r, t)[1], t + at(r, t)[0]});
                }
            }
        }
        long x = seed;
        int[] first = {0, -1, -1};
        for (int t = 0; t < n; t++) {
            for (int r = 0; r < roofs; r++) {
                for (int k = 0; k < balls.size(); k++) {
                    int[] ball = balls.get(k);
                    if (ball[0] != r || ball[1] != t) {
                        continue;
                    }
                    int[] thrown = at(r, t);
                    if (thrown[0] >= from) {
                        x = (1103515245L * x + 12345) % 2147483648L;
                        if (x / 65536 % 100 < odds) {
                            first = first[1] < 0 ? new int[] {0, t, r} : first;
                            balls.remove(k);
                            break;
                        }
                    }
                    ball[0] = thrown[1];
                    ball[1] = t + thrown[0];
                    break;
                }
            }
        }
        first[0] = balls.size();
        return first;
    }
}
