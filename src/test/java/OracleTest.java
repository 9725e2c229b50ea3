import java.util.ArrayList;
import java.util.HashSet;
import java.util.List;
import java.util.Set;

/** Groups by seeds: every answer beside what the document's words give when all runs are gone through. */
public final class OracleTest {
    private static int wrong = 0;
    private static long z = 20261118L;

    private static void due(Plain p, String call, int got, int want) {
        if (got == want) return;
        wrong++;
        if (wrong < 40) System.out.println(p + ": " + call + " answered " + got + ", due is " + want);
    }

    private static int any(int below) {
        z = z * 6364136223846793005L + 1442695040888963407L;
        return (int) ((z >>> 33) % below);
    }

    /** A group, and its questions answered in the plainest way. */
    private static final class Plain {
        int teams, games, system;
        int[] start = new int[6], one = new int[9], other = new int[9], day = new int[9], result = new int[9];

        Plain with(int[] results) {
            Plain p = new Plain();
            p.teams = teams;
            p.games = games;
            p.system = system;
            p.start = start;
            p.one = one;
            p.other = other;
            p.day = day;
            p.result = results;
            return p;
        }

        Plain without(int game) {
            Plain p = new Plain();
            p.teams = teams;
            p.system = system;
            p.start = start;
            for (int g = 0; g < games; g++) {
                if (g == game) continue;
                p.one[p.games] = one[g];
                p.other[p.games] = other[g];
                p.day[p.games] = day[g];
                p.result[p.games] = result[g];
                p.games++;
            }
            return p;
        }

        Plain asOf(int d) {
            int[] r = result.clone();
            for (int g = 0; g < games; g++) if (day[g] > d) r[g] = -1;
            return with(r);
        }

        int won() {
            return system == 0 ? 1 : system == 1 ? 2 : 3;
        }

        int drew() {
            return system == 0 ? 0 : 1;
        }

        int[] points() {
            int[] p = new int[teams];
            for (int u = 0; u < teams; u++) p[u] = start[u];
            for (int g = 0; g < games; g++) {
                if (result[g] == 1) p[one[g]] += won();
                if (result[g] == 2) p[other[g]] += won();
                if (result[g] == 0) {
                    p[one[g]] += drew();
                    p[other[g]] += drew();
                }
            }
            return p;
        }

        boolean plays(int g, int t) {
            return one[g] == t || other[g] == t;
        }

        int left() {
            int n = 0;
            for (int g = 0; g < games; g++) if (result[g] == -1) n++;
            return n;
        }

        /** All runs, the first by games' numbers first, a 1 ahead of a 2 ahead of a 0. */
        List<int[]> runs() {
            List<int[]> found = new ArrayList<>();
            runs(0, result.clone(), found);
            return found;
        }

        private void runs(int g, int[] r, List<int[]> found) {
            if (g == games) {
                found.add(r.clone());
                return;
            }
            if (result[g] != -1) {
                runs(g + 1, r, found);
                return;
            }
            for (int x : new int[] {1, 2, 0}) {
                if (x == 0 && system == 0) continue;
                r[g] = x;
                runs(g + 1, r, found);
            }
            r[g] = -1;
        }

        boolean nobodyAbove(int[] results, int t) {
            int[] p = with(results).points();
            for (int u = 0; u < teams; u++) if (p[u] > p[t]) return false;
            return true;
        }

        boolean isRunFor(int[] results, int t) {
            for (int g = 0; g < games; g++) {
                if (result[g] == -1 && plays(g, t) && results[g] != (one[g] == t ? 1 : 2)) return false;
            }
            return nobodyAbove(results, t);
        }

        int[] firstRun(int t, List<int[]> runs) {
            for (int[] r : runs) if (isRunFor(r, t)) return r;
            return null;
        }

        int in() {
            List<int[]> runs = runs();
            int bits = 0;
            for (int t = 0; t < teams; t++) if (firstRun(t, runs) != null) bits |= 1 << t;
            return bits;
        }

        boolean sure(int t) {
            for (int[] r : runs()) if (!nobodyAbove(r, t)) return false;
            return true;
        }

        int since(int t, int what) {
            for (int d = 0; d <= 30; d++) {
                Plain p = asOf(d);
                if (what == 0 ? (p.in() >> t & 1) == 0 : p.sure(t)) return d;
            }
            return -1;
        }

        private static boolean isLess(int a, int b) {
            if (b == -1) return true;
            int na = Integer.bitCount(a), nb = Integer.bitCount(b);
            return na < nb || na == nb && a < b;
        }

        int pattern(int t, List<int[]> runs) {
            int best = -1;
            for (int[] r : runs) {
                if (!isRunFor(r, t)) continue;
                int bits = 0;
                for (int g = 0; g < games; g++) if (result[g] == -1 && r[g] == 0) bits |= 1 << g;
                if (isLess(bits, best)) best = bits;
            }
            return best;
        }

        int needs(int t, List<int[]> runs) {
            int best = -1;
            for (int[] r : runs) {
                int bits = 0;
                boolean ownDrawn = false;
                for (int g = 0; g < games; g++) {
                    if (result[g] != -1 || !plays(g, t)) continue;
                    if (r[g] == 0) ownDrawn = true;
                    if (r[g] == (one[g] == t ? 1 : 2)) bits |= 1 << g;
                }
                if (!ownDrawn && nobodyAbove(r, t) && isLess(bits, best)) best = bits;
            }
            return best;
        }

        int reach(int t) {
            int sum = points()[t];
            for (int g = 0; g < games; g++) if (result[g] == -1 && plays(g, t)) sum += won();
            return sum;
        }

        int above(int t, int some) {
            int[] p = points();
            int sum = 0;
            for (int u = 0; u < teams; u++) if ((some >> u & 1) == 1) sum += p[u] - reach(t);
            for (int g = 0; g < games; g++) {
                if (result[g] == -1 && (some >> one[g] & 1) == 1 && (some >> other[g] & 1) == 1) sum += system == 0 ? 1 : 2;
            }
            return sum;
        }

        int set(int t) {
            int best = 0;
            for (int some = 0; some < 1 << teams; some++) {
                if ((some >> t & 1) == 1) continue;
                int a = above(t, some), b = above(t, best);
                if (a > b || a == b && Integer.bitCount(some) < Integer.bitCount(best)) best = some;
            }
            return best;
        }

        int help(int t, int g) {
            int bits = 0;
            for (int x = system == 0 ? 1 : 0; x <= 2; x++) {
                int[] r = result.clone();
                r[g] = x;
                if ((with(r).in() >> t & 1) == 1) bits |= 1 << x;
            }
            return bits;
        }

        int tables() {
            Set<String> rows = new HashSet<>();
            for (int[] r : runs()) rows.add(java.util.Arrays.toString(with(r).points()));
            return rows.size();
        }

        int[] drawn(int seed) {
            int[] r = result.clone();
            int s = seed;
            for (int g = 0; g < games; g++) {
                if (result[g] != -1) continue;
                s = s * 1103515245 + 12345;
                r[g] = system == 0 ? 1 + (s >>> 9) % 2 : (s >>> 9) % 3;
            }
            return r;
        }

        @Override
        public String toString() {
            StringBuilder s = new StringBuilder("system " + system + ", start");
            for (int u = 0; u < teams; u++) s.append(' ').append(start[u]);
            for (int g = 0; g < games; g++) s.append(", ").append(one[g] + "-" + other[g] + " day " + day[g] + " " + result[g]);
            return s.toString();
        }
    }

    private static Plain anyGroup(int maxLeft) {
        Plain p = new Plain();
        p.teams = 1 + any(6);
        p.games = p.teams < 2 ? 0 : any(10);
        p.system = any(3);
        int spread = 1 + any(any(3) == 0 ? 10 : 5);
        for (int u = 0; u < p.teams; u++) p.start[u] = any(spread);
        int days = 1 + any(30);
        int left = 0;
        for (int g = 0; g < p.games; g++) {
            p.one[g] = any(p.teams);
            p.other[g] = (p.one[g] + 1 + any(p.teams - 1)) % p.teams;
            p.day[g] = 1 + any(days);
            p.result[g] = any(3) == 0 ? any(3) : -1;
            if (p.result[g] == -1 && left == maxLeft) p.result[g] = any(3);
            if (p.result[g] == -1) left++;
        }
        return p;
    }

    /** One team looks on while the others, near it, play all games: the dearest for a search. */
    private static Plain anyTightGroup() {
        Plain p = new Plain();
        p.teams = 6;
        p.games = 9;
        p.system = 1 + any(2);
        p.start[0] = 3 + any(3);
        for (int u = 1; u < 6; u++) p.start[u] = any(2 + any(2));
        for (int g = 0; g < 9; g++) {
            p.one[g] = 1 + any(5);
            p.other[g] = 1 + (p.one[g] + any(4)) % 5;
            p.day[g] = 1 + any(30);
            p.result[g] = -1;
        }
        return p;
    }

    private static void feed(StillInIt x, String text) {
        for (int i = 0; i < text.length(); i++) x.feed(1, text.charAt(i), 0, 0, 0, 0);
    }

    private static StillInIt build(Plain p) {
        StillInIt x = new StillInIt();
        x.system(p.system);
        for (int u = 0; u < p.teams; u++) {
            feed(x, "team " + (char) ('a' + u));
            x.text();
            feed(x, "start " + (char) ('a' + u) + " " + p.start[u]);
            x.text();
        }
        x.sheet(0, 1, 3 * p.games);
        for (int g = 0; g < p.games; g++) {
            x.put(0, 3 * g, p.one[g]);
            x.put(0, 3 * g + 1, p.other[g]);
            x.put(0, 3 * g + 2, p.day[g]);
        }
        due(p, "load", x.load(0, 1, 0, p.games), p.games);
        for (int g = 0; g < p.games; g++) if (p.result[g] != -1) x.play(g, p.result[g]);
        return x;
    }

    private static void askTeams(Plain p, StillInIt x) {
        List<int[]> runs = p.runs();
        int in = 0;
        for (int t = 0; t < p.teams; t++) {
            int[] first = p.firstRun(t, runs);
            if (first != null) in |= 1 << t;
            due(p, "isIn(" + t + ")", x.isIn(t), first != null ? 1 : 0);
            due(p, "told(" + t + ", 1)", x.told(t, 1), p.points()[t]);
            due(p, "told(" + t + ", 2)", x.told(t, 2), p.reach(t));
            due(p, "set(" + t + ", 0)", x.set(t, 0), p.set(t));
            due(p, "set(" + t + ", 1)", x.set(t, 1), p.above(t, p.set(t)));
            due(p, "pattern(" + t + ")", x.pattern(t), p.pattern(t, runs));
            int needs = p.needs(t, runs);
            due(p, "needs(" + t + ", 1)", x.needs(t, 1), needs);
            due(p, "needs(" + t + ", 0)", x.needs(t, 0), needs == -1 ? -1 : Integer.bitCount(needs));
            for (int g = 0; g < p.games; g++) {
                int want = p.result[g] != -1 ? -3 : first == null ? -1 : first[g];
                due(p, "run(" + t + ", " + g + ")", x.run(t, g), want);
            }
        }
        due(p, "all()", x.all(), in);
    }

    private static void askThoughts(Plain p, StillInIt x) {
        for (int t = 0; t < p.teams; t++) {
            due(p, "since(" + t + ", 0)", x.since(t, 0), p.since(t, 0));
            due(p, "since(" + t + ", 1)", x.since(t, 1), p.since(t, 1));
            for (int g = 0; g < p.games; g++) {
                due(p, "help(" + t + ", " + g + ")", x.help(t, g), p.result[g] != -1 ? -3 : p.help(t, g));
            }
        }
        for (int g = 0; g < p.games; g++) due(p, "without(" + g + ")", x.without(g), p.without(g).in());
        due(p, "tables()", x.tables(), p.left() > 4 ? -6 : p.tables());
    }

    private static void askSeeds(Plain p, StillInIt x) {
        int seed = any(1 << 30) * (any(2) == 0 ? 1 : -3);
        int[] drawn = p.with(p.drawn(seed)).points();
        int first = 0;
        for (int t = 0; t < p.teams; t++) if (p.nobodyAbove(p.drawn(seed), t)) first |= 1 << t;
        due(p, "drawn(" + seed + ")", x.drawn(seed), first);
        due(p, "film(1, " + seed + ")", x.film(1, seed), p.teams);
        due(p, "tells(1, 1)", x.tells(1, 1), first);
        int told = any(p.teams + 1);
        x.sheet(2, 1, told);
        x.copy(1, 0, 2, 0, told);
        int same = 0;
        for (int[] r : p.runs()) {
            int[] points = p.with(r).points();
            boolean so = true;
            for (int u = 0; u < told; u++) so &= points[u] == drawn[u];
            if (so) same++;
        }
        due(p, "tells(2, 0)", x.tells(2, 0), p.left() > 6 ? -6 : same);
        for (int t = 0; t < p.teams; t++) {
            int m = 1 + any(20);
            int good = 0;
            for (int i = 0; i < m; i++) if (p.nobodyAbove(p.drawn(seed + i), t)) good++;
            int above = x.chance(t, seed, m, 0), below = x.chance(t, seed, m, 1);
            due(p, "chance of " + t, above * m, good * below);
            for (int d = 2; d <= m; d++) if (above % d == 0 && below % d == 0) due(p, "lowest terms", d, 1);
        }
    }

    private static void askState(Plain p, StillInIt x) {
        due(p, "count(0)", x.count(0), p.teams);
        due(p, "count(1)", x.count(1), p.games);
        due(p, "count(2)", x.count(2), p.left());
        due(p, "count(4)", x.count(4), p.system);
        for (int g = 0; g < p.games; g++) {
            due(p, "game(" + g + ", 0)", x.game(g, 0), p.one[g]);
            due(p, "game(" + g + ", 1)", x.game(g, 1), p.other[g]);
            due(p, "game(" + g + ", 2)", x.game(g, 2), p.day[g]);
            due(p, "game(" + g + ", 3)", x.game(g, 3), p.result[g]);
        }
    }

    public static void main(String[] args) {
        for (int i = 0; i < 1500; i++) {
            Plain p = anyGroup(i % 50 == 0 ? 7 : 4);
            askTeams(p, build(p));
            askSeeds(p, build(p));
            StillInIt x = build(p);
            if (i % 2 == 0) askThoughts(p, x);
            askState(p, x);
        }
        for (int i = 0; i < 40; i++) {
            Plain p = i % 2 == 0 ? anyTightGroup() : anyGroup(9);
            askTeams(p, build(p));
        }
        System.out.println(wrong == 0 ? "all answers are as gone through" : wrong + " answers are not as due");
        if (wrong != 0) System.exit(1);
    }
}
