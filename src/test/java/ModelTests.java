import java.util.List;
import java.util.Random;

/** Random cities, the program's answers held against the plain model's. */
final class ModelTests {
    private static final Random DICE = new Random(20261118);

    public static void main(String[] args) {
        int kept = 0;
        int cities = 1500;
        for (int k = 0; k < cities; k++) {
            Model m = Model.random(DICE);
            if (m.clash() == null) {
                kept++;
            }
            String text = m.text(DICE);
            ask(m, text, Check.told(text));
        }
        Check.holds("enough of both, kept up: " + kept, kept > cities / 3 && kept < cities * 9 / 10);
        rowsAlone();
        Check.close("ModelTests");
    }

    private static void ask(Model m, String text, JuggledPost x) {
        rowsAndClashes(m, text, x);
        kindsAndWages(m, text, x);
        mail(m, text, x);
        changes(m, text, x);
        if (m.clash() == null) {
            wayOfBalls(m, text, x);
            gusts(m, text, x);
            backwards(m, text, x);
        }
    }

    private static int roof(Model m) {
        return DICE.nextInt(m.roofs);
    }

    private static int beat() {
        return DICE.nextInt(DICE.nextBoolean() ? 30 : 100_000);
    }

    private static void rowsAndClashes(Model m, String text, JuggledPost x) {
        Check.due("turn " + text, m.round(), x.turn());
        int[] clash = m.clash();
        Check.due("keeps " + text, clash == null ? 1 : 0, x.keeps());
        for (int what = 0; what < 3; what++) {
            Check.due("clash " + text, clash == null ? -1 : clash[what], x.clash(what));
        }
        Check.due("balls " + text, clash == null ? m.balls() : -1, x.balls());
        Check.due("orbits " + text, clash == null ? m.orbits() : -1, x.orbits());
        int busyRoofs = 0;
        for (int r = 0; r < m.roofs; r++) {
            Check.due("period " + text, m.rows.get(r).size(), x.period(r));
            int t = beat();
            Check.due("height " + text, m.at(r, t)[0], x.tosses(r, t, 0));
            Check.due("goal " + text, m.at(r, t)[1], x.tosses(r, t, 1));
            Check.due("hand " + text, m.hand(r, t), x.tosses(r, t, 2));
            for (int[] thrown : m.rows.get(r)) {
                busyRoofs |= thrown[0] > 0 ? 1 << r : 0;
            }
        }
        int[] counts = {m.roofs, m.letters.size(), m.pairCount(), -9, 0, m.from, m.odds, busyRoofs, 0};
        for (int what = 0; what < 9; what++) {
            if (what != 3) {
                Check.due("count " + what + " " + text, counts[what], x.count(what));
            }
        }
    }

    private static void kindsAndWages(Model m, String text, JuggledPost x) {
        int[] crossings = m.crossings();
        for (int what = 0; what < 4; what++) {
            Check.due("crossings " + text, crossings[what], x.crossings(what));
        }
        int n = m.round();
        int most = -1;
        int first = -1;
        for (int t = 0; t < n; t++) {
            int busy = 0;
            for (int r = 0; r < m.roofs; r++) {
                busy += m.at(r, t)[0] > 0 ? 1 : 0;
            }
            first = busy > most ? t : first;
            most = Math.max(most, busy);
        }
        Check.due("busiest " + text, first, x.busiest(0));
        Check.due("busiest " + text, most, x.busiest(1));
        for (int r = 0; r < m.roofs; r++) {
            Check.due("suits " + text, m.unsuited(r) < 0 ? 1 : 0, x.suits(r));
            Check.due("unsuited " + text, m.unsuited(r), x.unsuited(r));
            int beats = DICE.nextInt(DICE.nextBoolean() ? 20 : 10_001);
            Check.due("wages " + text, m.wages(r, beats), x.wages(r, beats));
            int[] carried = new int[m.roofs];
            int silent = 0;
            for (int t = 0; t < n; t++) {
                silent += m.at(r, t)[0] == 0 ? 1 : 0;
                carried[m.at(r, t)[1]] += m.at(r, t)[0] > 0 ? 1 : 0;
            }
            Check.due("silent " + text, silent, x.silent(r));
            for (int s = 0; s < m.roofs; s++) {
                Check.due("carries " + text, carried[s], x.carries(r, s));
            }
        }
    }

    private static void mail(Model m, String text, JuggledPost x) {
        for (int k = 0; k < m.letters.size(); k++) {
            int[] letter = m.letters.get(k);
            for (int what = 0; what < 3; what++) {
                Check.due("letter " + text, letter[what], x.letter(k, what));
            }
            int[] arrival = new int[1];
            List<int[]> way = m.soonest(letter[0], letter[1], letter[2], arrival);
            Check.due("soonest " + text, arrival[0], x.soonest(k, 0));
            Check.due("throws " + text, way == null ? -1 : way.size(), x.soonest(k, 1));
            int waits = arrival[0] - letter[1];
            for (int i = 0; way != null && i < way.size(); i++) {
                waits -= m.at(way.get(i)[1], way.get(i)[0])[0];
                Check.due("way " + text, 10 * way.get(i)[0] + way.get(i)[1], x.way(k, i));
            }
            Check.due("waits " + text, way == null ? -1 : waits, x.soonest(k, 2));
            Check.due("no more way " + text, -1, x.way(k, way == null ? 0 : way.size()));
            int by = DICE.nextInt(3) == 0 ? beat() : letter[1] + DICE.nextInt(40);
            Check.due("latest " + text, m.latest(letter, by), x.latest(k, by));
            readers(m, text, x, k);
        }
    }

    private static void readers(Model m, String text, JuggledPost x, int k) {
        int[] letter = m.letters.get(k);
        if (m.clash() != null || m.at(letter[0], letter[1])[0] == 0) {
            Check.due("alone " + text, -1, x.alone(k));
            Check.due("readers " + text, -1, x.readers(k, beat()));
            return;
        }
        int alone = -1;
        int upTo = DICE.nextInt(4) == 0 ? beat() : Math.max(0, letter[1] - 5 + DICE.nextInt(60));
        int bits = 0;
        for (int[] place : m.path(letter[0], letter[1], letter[1] + 100_000)) {
            alone = alone < 0 && place[0] == letter[2] ? place[1] : alone;
            bits |= place[1] <= upTo ? 1 << place[0] : 0;
        }
        Check.due("alone " + text, alone, x.alone(k));
        Check.due("readers " + text, bits, x.readers(k, upTo));
    }

    private static void wayOfBalls(Model m, String text, JuggledPost x) {
        for (int k = 0; k < 4; k++) {
            int r = roof(m);
            int t = beat();
            int s = roof(m);
            List<int[]> down = m.down(r, t);
            Check.due("lands " + text, down.isEmpty() ? -1 : 10 * down.get(0)[0] + down.get(0)[1], x.lands(r, t));
            Check.due("air " + text, m.balls(), x.air(t));
            int n = DICE.nextInt(201);
            int later = Math.min(99_999, DICE.nextBoolean() ? beat() : t + DICE.nextInt(40));
            if (m.at(r, t)[0] == 0) {
                Check.due("ball " + text, -1, x.ball(r, t, n, 0));
                Check.due("orbit " + text, -1, x.orbit(r, t, 0));
                Check.due("same " + text, -1, x.same(r, t, s, later));
                Check.due("misses " + text, -1, x.misses(r, t, s));
                Check.due("missed " + text, -1, x.missed(r, t, s, 10));
                continue;
            }
            List<int[]> path = m.path(r, t, t + 60_000);
            Check.due("ball " + text, path.get(n)[0], x.ball(r, t, n, 0));
            Check.due("ball " + text, path.get(n)[1], x.ball(r, t, n, 1));
            boolean same = false;
            for (int[] place : m.path(r, t, later)) {
                same |= place[0] == s && place[1] == later;
            }
            Check.due("same " + text, same ? 1 : 0, x.same(r, t, s, later));
            int within = DICE.nextInt(DICE.nextBoolean() ? 50 : 10_001);
            int misses = -1;
            int missed = 0;
            for (int[] place : path.subList(1, path.size())) {
                misses = misses < 0 && place[0] == s ? place[1] : misses;
                missed += place[0] == s && place[1] <= t + within ? 1 : 0;
            }
            Check.due("misses " + text, misses, x.misses(r, t, s));
            Check.due("missed " + text, misses < 0 ? -1 : missed, x.missed(r, t, s, within));
            orbit(m, text, x, r, t);
        }
    }

    private static void orbit(Model m, String text, JuggledPost x, int r, int t) {
        int heights = 0;
        int bits = 0;
        for (int place : m.orbit(r, t)) {
            heights += m.at(place / 1000, place % 1000)[0];
            bits |= 1 << place / 1000;
        }
        int[] due = {m.orbit(r, t).size(), heights, heights / m.round(), bits};
        for (int what = 0; what < 4; what++) {
            Check.due("orbit " + what + text, due[what], x.orbit(r, t, what));
        }
    }

    private static void changes(Model m, String text, JuggledPost x) {
        for (int k = 0; k < 3; k++) {
            int r = roof(m);
            int s = roof(m);
            int i = DICE.nextInt(m.rows.get(r).size());
            int j = DICE.nextInt(m.rows.get(s).size());
            int from = m.state(r, i);
            int goal = m.state(s, j);
            Check.due("state " + text, from, x.state(r, i));
            List<Integer> way = from < 0 || goal < 0 ? null : Model.change(from, goal);
            Check.due("change " + text, way == null ? -1 : way.size(), x.change(r, i, s, j));
            for (int n = 0; way != null && n < way.size(); n++) {
                Check.due("changes " + text, way.get(n), x.changes(r, i, s, j, n));
            }
            Check.due("changes " + text, -1, x.changes(r, i, s, j, way == null ? 0 : way.size()));
            List<Integer> down = from < 0 ? null : Model.change(from, (1 << Integer.bitCount(from)) - 1);
            Check.due("ground " + text, down == null ? -1 : down.size(), x.ground(r, i));
        }
    }

    private static void gusts(Model m, String text, JuggledPost x) {
        int seed = DICE.nextInt(2_000_000_001);
        int n = DICE.nextInt(DICE.nextInt(4) > 0 ? 60 : 2001);
        int[] due = m.gusts(seed, n);
        for (int what = 0; what < 3; what++) {
            Check.due("gusts " + text, due[what], x.gusts(seed, n, what));
        }
        int k = 1 + DICE.nextInt(20);
        int years = 0;
        for (int y = 0; y < k; y++) {
            years += m.gusts((long) seed + y, n)[1] >= 0 ? 1 : 0;
        }
        Check.due("years " + text, years, x.years(seed, k, n));
        Check.due("gusts again " + text, m.gusts(seed / 2, n / 2)[0], x.gusts(seed / 2, n / 2, 0));
    }

    private static void backwards(Model m, String text, JuggledPost x) {
        int n = m.round();
        Check.due("backwards " + text, n > 8 ? -5 : n, x.backwards());
        if (n > 8) {
            return;
        }
        for (int r = 0; r < m.roofs; r++) {
            Check.due("period backwards " + text, n, x.period(r));
            for (int i = 0; i < n; i++) {
                List<int[]> down = m.down(r, n - i);
                Check.due("height backwards " + text, down.isEmpty() ? 0 : down.get(0)[0], x.tosses(r, i, 0));
                Check.due("goal backwards " + text, down.isEmpty() ? r : down.get(0)[1], x.tosses(r, i, 1));
            }
        }
        Check.due("keeps backwards " + text, 1, x.keeps());
        Check.due("balls backwards " + text, m.balls(), x.balls());
        Check.due("orbits backwards " + text, m.orbits(), x.orbits());
    }

    private static void rowsAlone() {
        for (int p = 1; p <= 8; p++) {
            for (int top = 0; top <= 9; top++) {
                long[] number = new long[10];
                int[][] least = new int[10][];
                writeOut(new int[p], 0, top, number, least);
                JuggledPost x = new JuggledPost();
                for (int b = 0; b <= 9; b++) {
                    Check.due("rows of " + p + " with " + b + " up to " + top, number[b], x.rows(p, b, top));
                    for (int n = 0; n < p; n++) {
                        Check.due("least", least[b] == null ? -1 : least[b][n], x.least(p, b, top, n));
                    }
                }
            }
        }
    }

    /** Row by row, the least first. */
    private static void writeOut(int[] row, int i, int top, long[] number, int[][] least) {
        int p = row.length;
        if (i == p) {
            int balls = java.util.Arrays.stream(row).sum() / p;
            number[balls]++;
            least[balls] = least[balls] == null ? row.clone() : least[balls];
            return;
        }
        for (int h = 0; h <= top; h++) {
            boolean free = true;
            for (int k = 0; k < i; k++) {
                free &= (k + row[k]) % p != (i + h) % p;
            }
            if (free) {
                row[i] = h;
                writeOut(row, i + 1, top, number, least);
            }
        }
    }
}
