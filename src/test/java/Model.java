import java.util.ArrayList;
import java.util.HashSet;
import java.util.List;
import java.util.Set;
import java.util.function.Predicate;
import java.util.regex.Matcher;
import java.util.regex.Pattern;

/** The document read out once more, call by call, in its plainest form; nothing is shared with the class. */
final class Model {
    private static final int NONE = -1, BAD = -2, STATE = -3, FULL = -4, DEAR = -6;
    private static final Pattern TOKEN = Pattern.compile("[a-z]+|[0-9]+|[^ \n]");
    private static final List<String> KEYS = List.of("team", "start", "game", "won", "drew");

    /** A GAME; its RESULT is NONE while it is LEFT. */
    private record Game(int one, int other, int day, int result) {
        boolean isLeft() {
            return result == NONE;
        }

        boolean isOf(int team) {
            return one == team || other == team;
        }

        boolean isBetween(int a, int b) {
            return isOf(a) && isOf(b) && a != b;
        }

        int wonBy(int team) {
            return one == team ? 1 : 2;
        }

        Game with(int r) {
            return new Game(one, other, day, r);
        }
    }

    private record Token(String word, int place) {
    }

    private record Team(String name, int start) {
    }

    /** What AN IMAGE keeps; never changed, only made anew. */
    private record Group(List<Team> teams, List<Game> games, int system) {
        int won() {
            return system == 0 ? 1 : system == 1 ? 2 : 3;
        }

        int drawn() {
            return system == 0 ? 0 : 1;
        }

        int[] points() {
            int[] p = new int[teams.size()];
            for (int t = 0; t < p.length; t++) p[t] = teams.get(t).start;
            for (Game g : games) {
                if (g.result == 1) p[g.one] += won();
                if (g.result == 2) p[g.other] += won();
                if (g.result == 0) p[g.one] += drawn();
                if (g.result == 0) p[g.other] += drawn();
            }
            return p;
        }

        Group with(List<Game> changed) {
            return new Group(teams, changed, system);
        }

        Group with(int k, int result) {
            List<Game> changed = new ArrayList<>(games);
            changed.set(k, changed.get(k).with(result));
            return with(changed);
        }

        Group without(int k) {
            List<Game> fewer = new ArrayList<>(games);
            fewer.remove(k);
            return with(fewer);
        }

        Group asOf(int day) {
            List<Game> then = new ArrayList<>();
            for (Game g : games) then.add(g.day > day ? g.with(NONE) : g);
            return with(then);
        }

        int left() {
            int bits = 0;
            for (int k = 0; k < games.size(); k++) if (games.get(k).isLeft()) bits |= 1 << k;
            return bits;
        }

        int leftOf(int team) {
            int bits = 0;
            for (int k = 0; k < games.size(); k++) {
                if (games.get(k).isLeft() && games.get(k).isOf(team)) bits |= 1 << k;
            }
            return bits;
        }

        int reach(int team) {
            return points()[team] + won() * Integer.bitCount(leftOf(team));
        }

        Group byRun(int[] run) {
            List<Game> then = new ArrayList<>();
            for (int k = 0; k < run.length; k++) then.add(games.get(k).with(run[k]));
            return with(then);
        }

        /** Goes through all RUNS in their order, till one is as wanted; whether one was. */
        boolean anyRun(Predicate<int[]> wanted) {
            int[] run = new int[games.size()];
            for (int k = 0; k < run.length; k++) run[k] = games.get(k).isLeft() ? 1 : games.get(k).result;
            while (true) {
                if (wanted.test(run)) return true;
                int k = run.length - 1;
                // As an odometer goes: 1, 2, 0 (by WINS 1, 2), the last game first.
                while (k >= 0 && (!games.get(k).isLeft() || run[k] == (system == 0 ? 2 : 0))) {
                    if (games.get(k).isLeft()) run[k] = 1;
                    k--;
                }
                if (k < 0) return false;
                run[k] = run[k] == 1 ? 2 : 0;
            }
        }

        boolean winsJust(int team, int[] run, int wins) {
            for (int k = 0; k < run.length; k++) {
                if (!games.get(k).isLeft() || !games.get(k).isOf(team)) continue;
                int won = games.get(k).wonBy(team);
                if (run[k] != ((wins >> k & 1) == 1 ? won : 3 - won)) return false;
            }
            return true;
        }

        boolean isRunFor(int team, int[] run) {
            return winsJust(team, run, leftOf(team)) && byRun(run).isAtTop(team);
        }

        boolean isAtTop(int team) {
            int[] p = points();
            for (int u : p) if (u > p[team]) return false;
            return true;
        }

        int top() {
            int bits = 0;
            for (int t = 0; t < teams.size(); t++) if (isAtTop(t)) bits |= 1 << t;
            return bits;
        }

        int[] firstRun(int team) {
            int[][] found = new int[1][];
            anyRun(run -> {
                if (isRunFor(team, run)) found[0] = run.clone();
                return found[0] != null;
            });
            return found[0];
        }

        boolean isIn(int team) {
            return firstRun(team) != null;
        }

        int in() {
            int bits = 0;
            for (int t = 0; t < teams.size(); t++) if (isIn(t)) bits |= 1 << t;
            return bits;
        }

        boolean isSure(int team) {
            return !anyRun(run -> !byRun(run).isAtTop(team));
        }

        int above(int team, int some) {
            int sum = 0;
            int[] p = points();
            for (int u = 0; u < p.length; u++) if ((some >> u & 1) == 1) sum += p[u];
            for (Game g : games) {
                if (g.isLeft() && (some >> g.one & 1) == 1 && (some >> g.other & 1) == 1) sum += system == 0 ? 1 : 2;
            }
            return sum - reach(team) * Integer.bitCount(some);
        }

        int set(int team) {
            int best = 0;
            for (int some = 0; some < 1 << teams.size(); some++) {
                if ((some >> team & 1) == 1) continue;
                int more = above(team, some) - above(team, best);
                if (more > 0 || more == 0 && Integer.bitCount(some) < Integer.bitCount(best)) best = some;
            }
            return best;
        }

        Group drawnBy(int seed) {
            List<Game> then = new ArrayList<>();
            int z = seed;
            for (Game g : games) {
                if (g.isLeft()) z = z * 1103515245 + 12345;
                int drawn = system == 0 ? 1 + (z >>> 9) % 2 : (z >>> 9) % 3;
                then.add(g.isLeft() ? g.with(drawn) : g);
            }
            return with(then);
        }
    }

    private static final class Sheet {
        final int sort;
        final int[] row;

        Sheet(int sort, int[] row) {
            this.sort = sort;
            this.row = row;
        }
    }

    private Group now = new Group(List.of(), List.of(), 0);
    private Group kept = null;
    private String tape = "";
    private final Sheet[] sheets = new Sheet[4];

    // ---- what can be asked for

    private boolean noTeam(int t) {
        return t < 0 || t >= now.teams.size();
    }

    private boolean noGame(int k) {
        return k < 0 || k >= now.games.size();
    }

    private static boolean outside(int n, int least, int most) {
        return n < least || n > most;
    }

    private boolean isLeft(int k) {
        return now.games.get(k).isLeft();
    }

    private boolean addGame(int one, int other, int day) {
        if (noTeam(one) || noTeam(other) || one == other || outside(day, 1, 30) || now.games.size() == 9) return false;
        List<Game> more = new ArrayList<>(now.games);
        more.add(new Game(one, other, day, NONE));
        now = now.with(more);
        return true;
    }

    private int teamNamed(String name) {
        for (int t = 0; t < now.teams.size(); t++) if (now.teams.get(t).name.equals(name)) return t;
        return NONE;
    }

    // ---- the tape

    int feed(int n, int a, int b, int c, int d, int e) {
        if (outside(n, 1, 5)) return BAD;
        StringBuilder bytes = new StringBuilder();
        for (int x : new int[] {a, b, c, d, e}) {
            if (outside(x, 0, 255)) return BAD;
            bytes.append((char) x);
        }
        if (tape.length() + n > 40) return FULL;
        tape += bytes.substring(0, n);
        return tape.length();
    }

    int text() {
        String text = tape;
        tape = "";
        List<Token> tokens = new ArrayList<>();
        Matcher m = TOKEN.matcher(text);
        while (m.find()) tokens.add(new Token(m.group(), m.start()));
        tokens.add(new Token("", text.length()));
        String key = tokens.get(0).word;
        if (!KEYS.contains(key)) return -100 - tokens.get(0).place;
        String form = switch (key) {
            case "team" -> "new";
            case "start" -> "old start";
            case "game" -> "old second day";
            default -> "old second";
        };
        String[] wanted = (form + " end").split(" ");
        for (int i = 0; i < wanted.length; i++) {
            Token token = tokens.get(i + 1);
            if (!canStand(wanted[i], token.word, tokens.get(i).word)) return -100 - token.place;
        }
        return doText(key, tokens);
    }

    private boolean canStand(String wanted, String word, String ahead) {
        boolean name = word.matches("[a-z]{1,6}") && !KEYS.contains(word);
        boolean number = word.matches("[0-9]{1,2}");
        return switch (wanted) {
            case "new" -> name && teamNamed(word) == NONE;
            case "old" -> name && teamNamed(word) != NONE;
            case "second" -> name && teamNamed(word) != NONE && !word.equals(ahead);
            case "start" -> number && Integer.parseInt(word) <= 9;
            case "day" -> number && !outside(Integer.parseInt(word), 1, 30);
            default -> word.isEmpty();
        };
    }

    private int doText(String key, List<Token> tokens) {
        String first = tokens.get(1).word, second = tokens.get(2).word;
        int t = teamNamed(first), u = teamNamed(second);
        List<Team> teams = new ArrayList<>(now.teams);
        switch (key) {
            case "team":
                if (teams.size() == 6) return FULL;
                teams.add(new Team(first, 0));
                now = new Group(teams, now.games, now.system);
                return teams.size() - 1;
            case "start":
                teams.set(t, new Team(first, Integer.parseInt(second)));
                now = new Group(teams, now.games, now.system);
                return t;
            case "game":
                return addGame(t, u, Integer.parseInt(tokens.get(3).word)) ? now.games.size() - 1 : FULL;
            default:
                return playBetween(t, u, key.equals("won"));
        }
    }

    private int playBetween(int t, int u, boolean won) {
        for (int day = 1; day <= 30; day++) {
            for (int k = 0; k < now.games.size(); k++) {
                Game g = now.games.get(k);
                if (!g.isLeft() || g.day != day || !g.isBetween(t, u)) continue;
                now = now.with(k, won ? g.wonBy(t) : 0);
                return k;
            }
        }
        return STATE;
    }

    int named() {
        int t = teamNamed(tape);
        tape = "";
        return t;
    }

    // ---- teams, games

    int system(int k) {
        if (outside(k, 0, 2)) return BAD;
        int was = now.system;
        now = new Group(now.teams, now.games, k);
        return was;
    }

    int play(int k, int result) {
        if (noGame(k) || outside(result, 0, 2)) return BAD;
        if (!isLeft(k)) return STATE;
        now = now.with(k, result);
        return 1;
    }

    int unplay(int k) {
        if (noGame(k)) return BAD;
        if (isLeft(k)) return STATE;
        int result = now.games.get(k).result;
        now = now.with(k, NONE);
        return result;
    }

    int told(int t, int what) {
        if (noTeam(t) || outside(what, 0, 4) && outside(what, 10, 15)) return BAD;
        Team team = now.teams.get(t);
        if (what >= 10) return what - 10 < team.name.length() ? team.name.charAt(what - 10) : NONE;
        return new int[] {team.start, now.points()[t], now.reach(t), now.leftOf(t), team.name.length()}[what];
    }

    int game(int k, int what) {
        if (noGame(k) || outside(what, 0, 3)) return BAD;
        Game g = now.games.get(k);
        return new int[] {g.one, g.other, g.day, g.result}[what];
    }

    int between(int t, int u) {
        if (noTeam(t) || noTeam(u) || t == u) return BAD;
        int bits = 0;
        for (int k = 0; k < now.games.size(); k++) if (now.games.get(k).isBetween(t, u)) bits |= 1 << k;
        return bits;
    }

    int taken(int k) {
        if (outside(k, 0, 2)) return BAD;
        return k == 0 || k == now.system || k == 1 && now.system == 2 ? now.won() : -13;
    }

    // ---- who is in

    int isIn(int t) {
        if (noTeam(t)) return BAD;
        return now.isIn(t) ? 1 : 0;
    }

    int all() {
        return now.in();
    }

    int set(int t, int what) {
        if (noTeam(t) || outside(what, 0, 1)) return BAD;
        int set = now.set(t);
        return what == 0 ? set : now.above(t, set);
    }

    int run(int t, int k) {
        if (noTeam(t) || noGame(k)) return BAD;
        if (!isLeft(k)) return STATE;
        int[] run = now.firstRun(t);
        return run == null ? NONE : run[k];
    }

    private static boolean isBefore(int bits, int best) {
        if (best == NONE) return true;
        int fewer = Integer.bitCount(best) - Integer.bitCount(bits);
        return fewer > 0 || fewer == 0 && bits < best;
    }

    int pattern(int t) {
        if (noTeam(t)) return BAD;
        int[] best = {NONE};
        now.anyRun(run -> {
            int bits = 0;
            for (int k = 0; k < run.length; k++) if (isLeft(k) && run[k] == 0) bits |= 1 << k;
            if (isBefore(bits, best[0]) && now.isRunFor(t, run)) best[0] = bits;
            return false;
        });
        return best[0];
    }

    int needs(int t, int what) {
        if (noTeam(t) || outside(what, 0, 1)) return BAD;
        int own = now.leftOf(t);
        int best = NONE;
        for (int bits = 0; bits < 1 << 9; bits++) {
            int wins = bits;
            if ((bits & ~own) != 0 || !isBefore(bits, best)) continue;
            if (now.anyRun(run -> now.winsJust(t, run, wins) && now.byRun(run).isAtTop(t))) best = bits;
        }
        return best == NONE || what == 1 ? best : Integer.bitCount(best);
    }

    int since(int t, int what) {
        if (noTeam(t) || outside(what, 0, 1)) return BAD;
        for (int day = 0; day <= 30; day++) {
            Group then = now.asOf(day);
            if (what == 0 ? !then.isIn(t) : then.isSure(t)) return day;
        }
        return NONE;
    }

    int help(int t, int k) {
        if (noTeam(t) || noGame(k)) return BAD;
        if (!isLeft(k)) return STATE;
        int bits = 0;
        for (int r = 0; r <= 2; r++) {
            if (r == 0 && now.system == 0) continue;
            if (now.with(k, r).isIn(t)) bits |= 1 << r;
        }
        return bits;
    }

    int without(int k) {
        return noGame(k) ? BAD : now.without(k).in();
    }

    int tables() {
        if (Integer.bitCount(now.left()) > 4) return DEAR;
        Set<String> rows = new HashSet<>();
        now.anyRun(run -> {
            rows.add(java.util.Arrays.toString(now.byRun(run).points()));
            return false;
        });
        return rows.size();
    }

    // ---- by seeds

    int drawn(int seed) {
        return now.drawnBy(seed).top();
    }

    int chance(int t, int seed, int m, int part) {
        if (noTeam(t) || outside(m, 1, 20) || outside(part, 0, 1)) return BAD;
        int above = 0, below = m;
        for (int i = 0; i < m; i++) if (now.drawnBy(seed + i).isAtTop(t)) above++;
        for (int d = m; d > 1; d--) {
            if (above % d != 0 || below % d != 0) continue;
            above /= d;
            below /= d;
        }
        return part == 0 ? above : below;
    }

    // ---- what was told

    int tells(int s, int what) {
        if (outside(s, 0, 3) || outside(what, 0, 1)) return BAD;
        if (sheets[s] == null) return -11;
        int[] row = sheets[s].row;
        if (row.length > now.teams.size()) return BAD;
        if (what == 1) return topOf(row);
        if (Integer.bitCount(now.left()) > 6) return DEAR;
        int[] runs = {0};
        now.anyRun(run -> {
            int[] p = now.byRun(run).points();
            boolean so = true;
            for (int u = 0; u < row.length; u++) so &= p[u] == row[u];
            if (so) runs[0]++;
            return false;
        });
        return runs[0];
    }

    private static int topOf(int[] row) {
        int bits = 0;
        for (int t = 0; t < row.length; t++) {
            boolean top = true;
            for (int u : row) top &= u <= row[t];
            if (top) bits |= 1 << t;
        }
        return bits;
    }

    int film(int s, int seed) {
        if (outside(s, 0, 3)) return BAD;
        sheets[s] = new Sheet(1, now.drawnBy(seed).points());
        return now.teams.size();
    }

    int image() {
        kept = now;
        return kept.games.size();
    }

    int back() {
        if (kept == null) return STATE;
        now = kept;
        return now.games.size();
    }

    int count(int what) {
        if (outside(what, 0, 4)) return BAD;
        return new int[] {now.teams.size(), now.games.size(), Integer.bitCount(now.left()), tape.length(), now.system}[what];
    }

    // ---- the host

    int sheet(int s, int sort, int n) {
        if (outside(s, 0, 3) || outside(sort, -1, 1) || sort != -1 && n > 40) return BAD;
        if (sort != -1 && n < 0) return -14;
        sheets[s] = sort == -1 ? null : new Sheet(sort, new int[n]);
        return 1;
    }

    int put(int s, int i, int v) {
        if (outside(s, 0, 3)) return BAD;
        if (sheets[s] == null) return -11;
        if (outside(i, 0, sheets[s].row.length - 1)) return -12;
        sheets[s].row[i] = sheets[s].sort == 0 ? v & 255 : v;
        return 1;
    }

    int copy(int s, int i, int other, int j, int n) {
        if (outside(s, 0, 3) || outside(other, 0, 3)) return BAD;
        if (sheets[s] == null || sheets[other] == null) return -11;
        if (sheets[s].sort != sheets[other].sort) return -13;
        int[] from = sheets[s].row, to = sheets[other].row;
        if (n < 0 || i < 0 || j < 0 || (long) i + n > from.length || (long) j + n > to.length) return -12;
        int[] were = from.clone();
        for (int k = 0; k < n; k++) to[j + k] = were[i + k];
        return n;
    }

    int load(int s, int sort, int from, int n) {
        if (outside(s, 0, 3) || outside(sort, 0, 1) || outside(n, 0, 9)) return BAD;
        if (sheets[s] != null && sheets[s].sort != sort) return -13;
        if (sheets[s] == null) return -11;
        int[] row = sheets[s].row;
        int came = 0;
        for (long at = from; at < from + 3L * n; at += 3) {
            if (at < 0 || at + 2 >= row.length) return -12;
            int i = (int) at;
            if (addGame(row[i], row[i + 1], row[i + 2])) came++;
        }
        return came;
    }
}
