/** Whether a team can still win its group, and what tells so: ../shared/DOC.md has every promise. */
public final class StillInIt {
    public static final int NONE = -1, BAD = -2, STATE = -3, FULL = -4, DEAR = -6;

    private static final int MISSING = -11, OUTSIDE = -12, UNLIKE = -13, NEGATIVE = -14;
    private static final int TEAMS = 6, GAMES = 9, LETTERS = 6, MOST_START = 9, LAST_DAY = 30;
    private static final int TAPE = 40, SHEETS = 4, ITEMS = 40, SEEDS = 20;
    private static final int TABLES_LEFT = 4, TOLD_LEFT = 6, TABLES_MOST = 81;
    private static final int DRAW = 0, ONE_WON = 1, OTHER_WON = 2;
    private static final int WINS = 0, THREES = 2;
    private static final int BYTES = 0, INTS = 1;

    // By SYSTEM: what WON and DRAWN bring, what a GAME gives at least, the least RESULT in a RUN.
    private static final int[] WON = {1, 2, 3};
    private static final int[] DRAWN = {0, 1, 1};
    private static final int[] LEAST = {1, 2, 2};
    private static final int[] FIRST_RESULT = {1, 0, 0};

    private final Tape tape;
    private final Group now;
    private final Group kept;
    private final Group thought;
    private final Shutter shutter;
    private final Race race;
    private final Walk walk;
    private final Sheet[] sheets;
    private final int[] table;
    private boolean hasImage;

    public StillInIt() {
        tape = new Tape();
        now = new Group();
        kept = new Group();
        thought = new Group();
        shutter = new Shutter();
        race = new Race();
        walk = new Walk();
        table = new int[TEAMS];
        sheets = new Sheet[SHEETS];
        for (int i = 0; i < SHEETS; i++) sheets[i] = new Sheet();
    }

    // ---- teams, games

    public int feed(int n, int a, int b, int c, int d, int e) {
        if (n < 1 || n > 5) return BAD;
        if (!isByte(a) || !isByte(b) || !isByte(c) || !isByte(d) || !isByte(e)) return BAD;
        if (tape.size + n > TAPE) return FULL;
        tape.add(a);
        if (n > 1) tape.add(b);
        if (n > 2) tape.add(c);
        if (n > 3) tape.add(d);
        if (n > 4) tape.add(e);
        return tape.size;
    }

    public int text() {
        int answer = doText();
        tape.clear();
        return answer;
    }

    public int named() {
        int team = now.whose(tape.bytes, 0, tape.size);
        tape.clear();
        return team;
    }

    public int system(int k) {
        if (!isSystem(k)) return BAD;
        int was = now.kind;
        now.kind = k;
        return was;
    }

    public int play(int game, int result) {
        if (!now.hasGame(game) || result < DRAW || result > OTHER_WON) return BAD;
        if (!now.isLeft(game)) return STATE;
        now.results[game] = result;
        return 1;
    }

    public int unplay(int game) {
        if (!now.hasGame(game)) return BAD;
        if (now.isLeft(game)) return STATE;
        int result = now.results[game];
        now.results[game] = NONE;
        return result;
    }

    public int told(int team, int what) {
        if (!now.hasTeam(team)) return BAD;
        if (what >= 10 && what < 10 + LETTERS) return now.letter(team, what - 10);
        switch (what) {
            case 0: return now.starts[team];
            case 1: return pointsOf(now, team);
            case 2: return reachOf(now, team);
            case 3: return now.leftOf(team);
            case 4: return now.sizes[team];
            default: return BAD;
        }
    }

    public int game(int game, int what) {
        if (!now.hasGame(game)) return BAD;
        switch (what) {
            case 0: return now.ones[game];
            case 1: return now.others[game];
            case 2: return now.days[game];
            case 3: return now.results[game];
            default: return BAD;
        }
    }

    public int between(int team, int other) {
        if (!now.hasTeam(team) || !now.hasTeam(other) || team == other) return BAD;
        int bits = 0;
        for (int k = 0; k < now.games; k++) {
            if (now.foe(k, team) == other) bits |= 1 << k;
        }
        return bits;
    }

    public int taken(int k) {
        if (!isSystem(k)) return BAD;
        return now.kind >= k ? now.winBrings() : UNLIKE;
    }

    // ---- who is in

    public int isIn(int team) {
        if (!now.hasTeam(team)) return BAD;
        return canWin(now, team) ? 1 : 0;
    }

    public int all() {
        return whoCanWin(now);
    }

    public int set(int team, int what) {
        if (!now.hasTeam(team) || !isPart(what)) return BAD;
        shutter.find(now, team);
        return what == 0 ? shutter.teams : shutter.above;
    }

    public int run(int team, int game) {
        if (!now.hasTeam(team) || !now.hasGame(game)) return BAD;
        if (!now.isLeft(game)) return STATE;
        // A set that shuts out is found sooner than a search ends that finds nothing.
        if (shutter.find(now, team) > 0) return NONE;
        race.open(now, team, now.leftOf(team));
        if (!race.canEnd()) return NONE;
        if (now.foe(game, team) == NONE) return race.pickOf(game);
        return now.ones[game] == team ? ONE_WON : OTHER_WON;
    }

    public int pattern(int team) {
        if (!now.hasTeam(team)) return BAD;
        return fewestFor(team, now.left() & ~now.leftOf(team), true);
    }

    public int needs(int team, int what) {
        if (!now.hasTeam(team) || !isPart(what)) return BAD;
        int wins = fewestFor(team, now.leftOf(team), false);
        return what == 0 && wins != NONE ? Integer.bitCount(wins) : wins;
    }

    public int since(int team, int what) {
        if (!now.hasTeam(team) || !isPart(what)) return BAD;
        for (int day = 0; day <= LAST_DAY; day++) {
            // A day on which nothing was played tells nothing that the day ahead of it did not.
            if (day > 0 && !now.wasPlayedOn(day)) continue;
            thought.takeFrom(now);
            thought.forget(day);
            if (what == 0 ? !canWin(thought, team) : isSure(thought, team)) return day;
        }
        return NONE;
    }

    public int help(int team, int game) {
        if (!now.hasTeam(team) || !now.hasGame(game)) return BAD;
        if (!now.isLeft(game)) return STATE;
        thought.takeFrom(now);
        int bits = 0;
        for (int result = now.firstResult(); result <= OTHER_WON; result++) {
            thought.results[game] = result;
            if (canWin(thought, team)) bits |= 1 << result;
        }
        return bits;
    }

    public int without(int game) {
        if (!now.hasGame(game)) return BAD;
        thought.takeFrom(now);
        thought.drop(game);
        return whoCanWin(thought);
    }

    public int tables() {
        if (Integer.bitCount(now.left()) > TABLES_LEFT) return DEAR;
        walk.open(now);
        return walk.from(0, now, null);
    }

    // ---- by seeds

    public int drawn(int seed) {
        drawInto(seed);
        return firstOf(table, now.teams);
    }

    public int chance(int team, int seed, int m, int part) {
        if (!now.hasTeam(team) || m < 1 || m > SEEDS || !isPart(part)) return BAD;
        int good = 0;
        for (int i = 0; i < m; i++) {
            drawInto(seed + i);
            if (has(firstOf(table, now.teams), team)) good++;
        }
        int common = commonDivisor(good, m);
        if (common < 1) return NONE;
        return (part == 0 ? good : m) / common;
    }

    // ---- what was told

    public int tells(int sheet, int what) {
        if (!isSheet(sheet) || !isPart(what)) return BAD;
        Sheet told = sheets[sheet];
        if (told.isMissing()) return MISSING;
        if (told.size > now.teams) return BAD;
        if (what == 1) return firstOf(told.items, told.size);
        if (Integer.bitCount(now.left()) > TOLD_LEFT) return DEAR;
        walk.open(now);
        return walk.from(0, now, told);
    }

    public int film(int sheet, int seed) {
        if (!isSheet(sheet)) return BAD;
        drawInto(seed);
        Sheet row = sheets[sheet];
        row.become(INTS, now.teams);
        for (int u = 0; u < now.teams; u++) row.items[u] = table[u];
        return now.teams;
    }

    public int image() {
        kept.takeFrom(now);
        hasImage = true;
        return kept.games;
    }

    public int back() {
        if (!hasImage) return STATE;
        now.takeFrom(kept);
        return now.games;
    }

    public int count(int what) {
        switch (what) {
            case 0: return now.teams;
            case 1: return now.games;
            case 2: return Integer.bitCount(now.left());
            case 3: return tape.size;
            case 4: return now.kind;
            default: return BAD;
        }
    }

    // ---- the host

    public int sheet(int sheet, int sort, int n) {
        if (!isSheet(sheet)) return BAD;
        if (sort == NONE) {
            sheets[sheet].become(NONE, 0);
            return 1;
        }
        if (!isSort(sort) || n > ITEMS) return BAD;
        if (n < 0) return NEGATIVE;
        sheets[sheet].become(sort, n);
        return 1;
    }

    public int put(int sheet, int i, int v) {
        if (!isSheet(sheet)) return BAD;
        Sheet row = sheets[sheet];
        if (row.isMissing()) return MISSING;
        if (i < 0 || i >= row.size) return OUTSIDE;
        row.items[i] = row.sort == BYTES ? v & 255 : v;
        return 1;
    }

    public int copy(int sheet, int i, int other, int j, int n) {
        if (!isSheet(sheet) || !isSheet(other)) return BAD;
        Sheet from = sheets[sheet];
        Sheet to = sheets[other];
        if (from.isMissing() || to.isMissing()) return MISSING;
        if (from.sort != to.sort) return UNLIKE;
        if (!from.holds(i, n) || !to.holds(j, n)) return OUTSIDE;
        System.arraycopy(from.items, i, to.items, j, n);
        return n;
    }

    public int load(int sheet, int sort, int from, int n) {
        if (!isSheet(sheet) || !isSort(sort) || n < 0 || n > GAMES) return BAD;
        Sheet row = sheets[sheet];
        if (!row.isMissing() && row.sort != sort) return UNLIKE;
        if (row.isMissing()) return MISSING;
        int came = 0;
        for (int k = 0; k < n; k++) {
            int at = from + 3 * k;
            if (!row.holds(at, 3)) return OUTSIDE;
            if (now.addGame(row.items[at], row.items[at + 1], row.items[at + 2]) != NONE) came++;
        }
        return came;
    }

    // ---- what numbers are such

    private static boolean isByte(int b) {
        return b >= 0 && b <= 255;
    }

    private static boolean isSystem(int k) {
        return k >= WINS && k <= THREES;
    }

    private static boolean isPart(int what) {
        return what == 0 || what == 1;
    }

    private static boolean isSheet(int sheet) {
        return sheet >= 0 && sheet < SHEETS;
    }

    private static boolean isSort(int sort) {
        return sort == BYTES || sort == INTS;
    }

    private static boolean has(int bits, int i) {
        return (bits >> i & 1) == 1;
    }

    // ---- texts

    private int doText() {
        tape.step();
        if (tape.is("team")) return doTeam();
        if (tape.is("start")) return doStart();
        if (tape.is("game")) return doGame();
        if (tape.is("won")) return doPlay(true);
        if (tape.is("drew")) return doPlay(false);
        return tape.fault();
    }

    private int doTeam() {
        tape.step();
        int begin = tape.begin;
        int end = tape.end;
        if (!tape.isName() || now.whose(tape.bytes, begin, end) != NONE) return tape.fault();
        if (!tape.ends()) return tape.fault();
        return now.addTeam(tape.bytes, begin, end);
    }

    private int doStart() {
        int team = readTeam(NONE);
        if (team == NONE) return tape.fault();
        int start = tape.number(0, MOST_START);
        if (start == NONE || !tape.ends()) return tape.fault();
        now.starts[team] = start;
        return team;
    }

    private int doGame() {
        int one = readTeam(NONE);
        if (one == NONE) return tape.fault();
        int other = readTeam(one);
        if (other == NONE) return tape.fault();
        int day = tape.number(1, LAST_DAY);
        if (day == NONE || !tape.ends()) return tape.fault();
        int added = now.addGame(one, other, day);
        return added == NONE ? FULL : added;
    }

    private int doPlay(boolean firstWon) {
        int first = readTeam(NONE);
        if (first == NONE) return tape.fault();
        int second = readTeam(first);
        if (second == NONE || !tape.ends()) return tape.fault();
        int k = now.nextBetween(first, second);
        if (k == NONE) return STATE;
        int winner = now.ones[k] == first ? ONE_WON : OTHER_WON;
        now.results[k] = firstWon ? winner : DRAW;
        return k;
    }

    /** The TEAM of the next TOKEN, if it is one's NAME and not that of another one. */
    private int readTeam(int another) {
        tape.step();
        if (!tape.isName()) return NONE;
        int team = now.whose(tape.bytes, tape.begin, tape.end);
        return team == another ? NONE : team;
    }

    // ---- thoughts about a group

    private int pointsOf(Group g, int team) {
        g.pointsInto(table);
        return table[team];
    }

    private int reachOf(Group g, int team) {
        return pointsOf(g, team) + g.winBrings() * Integer.bitCount(g.leftOf(team));
    }

    private boolean canWin(Group g, int team) {
        if (shutter.find(g, team) > 0) return false;
        // Points that can be split as one likes flow wherever no set of teams stops them.
        if (g.kind != THREES) return true;
        race.open(g, team, g.leftOf(team));
        return race.canEnd();
    }

    private int whoCanWin(Group g) {
        int bits = 0;
        for (int u = 0; u < g.teams; u++) {
            if (canWin(g, u)) bits |= 1 << u;
        }
        return bits;
    }

    /** The worst for a team is one run: whoever else plays wins, and it loses all. */
    private boolean isSure(Group g, int team) {
        int points = pointsOf(g, team);
        for (int u = 0; u < g.teams; u++) {
            if (u != team && reachOf(g, u) > points) return false;
        }
        return true;
    }

    /** Of games within these the fewest, of like ones the least, by which a team wins: they are drawn, or it wins them. */
    private int fewestFor(int team, int within, boolean drawn) {
        // Who is out with all its games won is out with fewer, too.
        if (!canWin(now, team)) return NONE;
        for (int size = 0; size <= GAMES; size++) {
            int bits = 0;
            for (int i = 0; i < 1 << GAMES; i++) {
                if (Integer.bitCount(bits) == size && suffices(team, bits, drawn)) return bits;
                // The next bits within these, by size as a number; 0 behind the last ones.
                bits = (bits - within) & within;
                if (bits == 0) break;
            }
        }
        return NONE;
    }

    private boolean suffices(int team, int bits, boolean drawn) {
        race.open(now, team, drawn ? now.leftOf(team) : bits);
        if (drawn) race.drawOnly(bits);
        return race.canEnd();
    }

    private void drawInto(int seed) {
        now.pointsInto(table);
        int first = now.firstResult();
        int z = seed;
        for (int k = 0; k < now.games; k++) {
            if (!now.isLeft(k)) continue;
            z = z * 1103515245 + 12345;
            now.award(table, k, first + (z >>> 9) % (3 - first), 1);
        }
    }

    private static int firstOf(int[] row, int size) {
        int bits = 0;
        int most = 0;
        for (int u = 0; u < size && u < row.length; u++) {
            if (bits == 0 || row[u] > most) {
                bits = 0;
                most = row[u];
            }
            if (row[u] == most) bits |= 1 << u;
        }
        return bits;
    }

    private static int commonDivisor(int a, int b) {
        int x = a;
        int y = b;
        for (int i = 0; i < 2 * SEEDS && y > 0; i++) {
            int rest = x % y;
            x = y;
            y = rest;
        }
        return x;
    }

    /** THE TAPE, and the TOKEN at which its reading stands. */
    private static final class Tape {
        static final int END = 0, WORD = 1, NUMBER = 2, STRANGE = 3;

        final int[] bytes = new int[TAPE];
        int size;
        int begin;
        int end;
        int sort;

        void add(int b) {
            if (size >= TAPE) return;
            bytes[size] = b;
            size++;
        }

        void clear() {
            size = 0;
            begin = 0;
            end = 0;
            sort = END;
        }

        void step() {
            begin = end;
            while (begin < size && isBlank(bytes[begin])) begin++;
            sort = sortAt(begin);
            end = begin;
            if (sort != WORD && sort != NUMBER) return;
            while (end < size && sortAt(end) == sort) end++;
        }

        private static boolean isBlank(int b) {
            return b == 32 || b == 10;
        }

        private int sortAt(int place) {
            if (place < 0 || place >= size) return END;
            int b = bytes[place];
            if (b >= 'a' && b <= 'z') return WORD;
            if (b >= '0' && b <= '9') return NUMBER;
            return STRANGE;
        }

        int fault() {
            return -100 - begin;
        }

        boolean ends() {
            step();
            return sort == END;
        }

        boolean is(String word) {
            if (sort != WORD || end - begin != word.length()) return false;
            for (int i = 0; i < word.length(); i++) {
                if (bytes[begin + i] != word.charAt(i)) return false;
            }
            return true;
        }

        boolean isName() {
            if (sort != WORD || end - begin > LETTERS) return false;
            return !is("team") && !is("start") && !is("game") && !is("won") && !is("drew");
        }

        /** The next TOKEN, if it is a NUMBER within these; NONE. */
        int number(int least, int most) {
            step();
            if (sort != NUMBER || end - begin > 2) return NONE;
            int value = 0;
            for (int i = begin; i < end; i++) value = value * 10 + bytes[i] - '0';
            return value >= least && value <= most ? value : NONE;
        }
    }

    /** TEAMS, GAMES and SYSTEM: as they are, as an image keeps them, as they are thought of. */
    private static final class Group {
        int teams;
        int games;
        int kind;
        final int[] starts = new int[TEAMS];
        final int[] sizes = new int[TEAMS];
        final int[] letters = new int[TEAMS * LETTERS];
        final int[] ones = new int[GAMES];
        final int[] others = new int[GAMES];
        final int[] days = new int[GAMES];
        final int[] results = new int[GAMES];

        void takeFrom(Group g) {
            teams = g.teams;
            games = g.games;
            kind = g.kind;
            System.arraycopy(g.starts, 0, starts, 0, TEAMS);
            System.arraycopy(g.sizes, 0, sizes, 0, TEAMS);
            System.arraycopy(g.letters, 0, letters, 0, TEAMS * LETTERS);
            System.arraycopy(g.ones, 0, ones, 0, GAMES);
            System.arraycopy(g.others, 0, others, 0, GAMES);
            System.arraycopy(g.days, 0, days, 0, GAMES);
            System.arraycopy(g.results, 0, results, 0, GAMES);
        }

        boolean hasTeam(int team) {
            return team >= 0 && team < teams;
        }

        boolean hasGame(int k) {
            return k >= 0 && k < games;
        }

        boolean isLeft(int k) {
            return results[k] == NONE;
        }

        int winBrings() {
            return WON[kind];
        }

        int drawBrings() {
            return DRAWN[kind];
        }

        int leastGiven() {
            return LEAST[kind];
        }

        int firstResult() {
            return FIRST_RESULT[kind];
        }

        int letter(int team, int i) {
            return i < sizes[team] ? letters[team * LETTERS + i] : NONE;
        }

        /** Whose NAME these bytes are; NONE. */
        int whose(int[] bytes, int begin, int end) {
            for (int u = 0; u < teams; u++) {
                if (isNamed(u, bytes, begin, end)) return u;
            }
            return NONE;
        }

        private boolean isNamed(int team, int[] bytes, int begin, int end) {
            if (sizes[team] != end - begin) return false;
            for (int i = 0; i < sizes[team]; i++) {
                if (letters[team * LETTERS + i] != bytes[begin + i]) return false;
            }
            return true;
        }

        int addTeam(int[] bytes, int begin, int end) {
            if (teams >= TEAMS) return FULL;
            sizes[teams] = end - begin;
            for (int i = 0; i < sizes[teams]; i++) letters[teams * LETTERS + i] = bytes[begin + i];
            starts[teams] = 0;
            teams++;
            return teams - 1;
        }

        /** The new GAME's number; NONE, if it isn't as told or there is no room. */
        int addGame(int one, int other, int day) {
            if (!hasTeam(one) || !hasTeam(other) || one == other) return NONE;
            if (day < 1 || day > LAST_DAY || games >= GAMES) return NONE;
            ones[games] = one;
            others[games] = other;
            days[games] = day;
            results[games] = NONE;
            games++;
            return games - 1;
        }

        void drop(int k) {
            for (int i = k; i < games - 1; i++) {
                ones[i] = ones[i + 1];
                others[i] = others[i + 1];
                days[i] = days[i + 1];
                results[i] = results[i + 1];
            }
            games--;
        }

        boolean wasPlayedOn(int day) {
            for (int k = 0; k < games; k++) {
                if (days[k] == day && !isLeft(k)) return true;
            }
            return false;
        }

        /** What was played behind a day counts as left. */
        void forget(int day) {
            for (int k = 0; k < games; k++) {
                if (days[k] > day) results[k] = NONE;
            }
        }

        /** Against whom a TEAM plays a GAME; NONE: it doesn't. */
        int foe(int k, int team) {
            if (ones[k] == team) return others[k];
            return others[k] == team ? ones[k] : NONE;
        }

        int left() {
            int bits = 0;
            for (int k = 0; k < games; k++) {
                if (isLeft(k)) bits |= 1 << k;
            }
            return bits;
        }

        int leftOf(int team) {
            int bits = 0;
            for (int k = 0; k < games; k++) {
                if (isLeft(k) && foe(k, team) != NONE) bits |= 1 << k;
            }
            return bits;
        }

        int nextBetween(int first, int second) {
            int best = NONE;
            for (int k = 0; k < games; k++) {
                if (!isLeft(k) || foe(k, first) != second) continue;
                if (best == NONE || days[k] < days[best]) best = k;
            }
            return best;
        }

        void pointsInto(int[] row) {
            for (int u = 0; u < TEAMS; u++) row[u] = u < teams ? starts[u] : 0;
            for (int k = 0; k < games; k++) {
                if (!isLeft(k)) award(row, k, results[k], 1);
            }
        }

        /** What a GAME's RESULT brings comes to a row of POINTS so many times (-1: is taken back). */
        void award(int[] row, int k, int result, int times) {
            if (result == DRAW) {
                row[ones[k]] += DRAWN[kind] * times;
                row[others[k]] += DRAWN[kind] * times;
            } else {
                row[result == ONE_WON ? ones[k] : others[k]] += WON[kind] * times;
            }
        }
    }

    /** SET and ABOVE of a TEAM: the narrowest place in what flows from GAMES to TEAMS. */
    private static final class Shutter {
        final int[] over = new int[TEAMS];
        final int[] pairs = new int[GAMES];
        int size;
        int teams;
        int above;

        /** Answers ABOVE of SET. */
        int find(Group g, int t) {
            open(g, t);
            teams = 0;
            above = 0;
            for (int some = 1; some < 1 << g.teams; some++) {
                if (has(some, t)) continue;
                int here = aboveOf(some, g);
                boolean fewer = Integer.bitCount(some) < Integer.bitCount(teams);
                if (here > above || here == above && fewer) {
                    teams = some;
                    above = here;
                }
            }
            return above;
        }

        private void open(Group g, int t) {
            g.pointsInto(over);
            int reach = over[t] + g.winBrings() * Integer.bitCount(g.leftOf(t));
            for (int u = 0; u < TEAMS; u++) over[u] -= reach;
            size = 0;
            for (int k = 0; k < g.games; k++) {
                if (!g.isLeft(k) || g.foe(k, t) != NONE) continue;
                pairs[size] = 1 << g.ones[k] | 1 << g.others[k];
                size++;
            }
        }

        private int aboveOf(int some, Group g) {
            int sum = 0;
            for (int u = 0; u < g.teams; u++) {
                if (has(some, u)) sum += over[u];
            }
            for (int i = 0; i < size; i++) {
                if ((some & pairs[i]) == pairs[i]) sum += g.leastGiven();
            }
            return sum;
        }
    }

    /** How much room each TEAM has below another one, and whether the GAMES of all others can end in it. */
    private static final class Race {
        final int[] room = new int[TEAMS];
        final int[] ones = new int[GAMES];
        final int[] others = new int[GAMES];
        final int[] numbers = new int[GAMES];
        final int[] picks = new int[GAMES];
        int size;
        int win;
        int draw;
        boolean mayDraw;

        /** For t, which wins these of its GAMES LEFT and loses its other ones. */
        void open(Group g, int t, int wins) {
            win = g.winBrings();
            draw = g.drawBrings();
            mayDraw = g.firstResult() == DRAW;
            g.pointsInto(room);
            int most = room[t] + win * Integer.bitCount(wins);
            for (int u = 0; u < TEAMS; u++) room[u] = most - room[u];
            size = 0;
            for (int k = 0; k < g.games; k++) {
                if (!g.isLeft(k)) continue;
                int foe = g.foe(k, t);
                if (foe == NONE) enter(k, g.ones[k], g.others[k]);
                else if (!has(wins, k)) room[foe] -= win;
            }
        }

        private void enter(int k, int one, int other) {
            numbers[size] = k;
            ones[size] = one;
            others[size] = other;
            size++;
        }

        /** These are drawn, and no other. */
        void drawOnly(int pattern) {
            mayDraw = false;
            int all = size;
            size = 0;
            for (int i = 0; i < all; i++) {
                if (has(pattern, numbers[i])) {
                    room[ones[i]] -= draw;
                    room[others[i]] -= draw;
                } else {
                    enter(numbers[i], ones[i], others[i]);
                }
            }
        }

        /** Whether there are RESULTS by which nobody has more than its room; picks are the first ones. */
        boolean canEnd() {
            for (int u = 0; u < TEAMS; u++) {
                if (room[u] < 0) return false;
            }
            return fits(0);
        }

        int pickOf(int k) {
            for (int i = 0; i < size; i++) {
                if (numbers[i] == k) return picks[i];
            }
            return NONE;
        }

        private boolean fits(int i) {
            if (i >= size) return true;
            if (fitsWon(i, ones[i], ONE_WON)) return true;
            // Who has room for all its games hurts nobody by winning them: no other result can do better.
            if (hasRoomForAll(ones[i], i)) return false;
            if (fitsWon(i, others[i], OTHER_WON)) return true;
            if (!mayDraw || hasRoomForAll(others[i], i)) return false;
            return fitsDrawn(i);
        }

        private boolean fitsWon(int i, int winner, int result) {
            if (room[winner] < win) return false;
            picks[i] = result;
            room[winner] -= win;
            boolean fit = fits(i + 1);
            room[winner] += win;
            return fit;
        }

        private boolean fitsDrawn(int i) {
            int one = ones[i];
            int other = others[i];
            if (room[one] < draw || room[other] < draw) return false;
            picks[i] = DRAW;
            room[one] -= draw;
            room[other] -= draw;
            boolean fit = fits(i + 1);
            room[one] += draw;
            room[other] += draw;
            return fit;
        }

        private boolean hasRoomForAll(int team, int from) {
            int need = 0;
            for (int i = from; i < size; i++) {
                if (ones[i] == team || others[i] == team) need += win;
            }
            return room[team] >= need;
        }
    }

    /** Goes through every RUN, with the POINTS behind it. */
    private static final class Walk {
        final int[] row = new int[TEAMS];
        final int[] left = new int[GAMES];
        final long[] seen = new long[TABLES_MOST];
        int size;
        int known;

        void open(Group g) {
            g.pointsInto(row);
            known = 0;
            size = 0;
            for (int k = 0; k < g.games; k++) {
                if (!g.isLeft(k)) continue;
                left[size] = k;
                size++;
            }
        }

        /** By how many runs POINTS are as told; nothing told: how many rows of them come that have not been seen. */
        private int from(int i, Group g, Sheet told) {
            if (i >= size) return (told == null ? isNew() : isAsTold(told)) ? 1 : 0;
            int sum = 0;
            for (int result = g.firstResult(); result <= OTHER_WON; result++) {
                g.award(row, left[i], result, 1);
                sum += from(i + 1, g, told);
                g.award(row, left[i], result, -1);
            }
            return sum;
        }

        private boolean isNew() {
            // Nobody has more than 9 + 9 * 3 points: six bits hold them.
            long code = 0;
            for (int u = 0; u < TEAMS; u++) code = code << 6 | row[u];
            for (int i = 0; i < known; i++) {
                if (seen[i] == code) return false;
            }
            if (known >= TABLES_MOST) return false;
            seen[known] = code;
            known++;
            return true;
        }

        private boolean isAsTold(Sheet told) {
            for (int u = 0; u < told.size && u < TEAMS; u++) {
                if (row[u] != told.items[u]) return false;
            }
            return true;
        }
    }

    /** A SHEET; its room is made once, and its size tells how much of it is in use. */
    private static final class Sheet {
        final int[] items = new int[ITEMS];
        int sort = NONE;
        int size;

        boolean isMissing() {
            return sort == NONE;
        }

        void become(int newSort, int n) {
            sort = newSort;
            size = n;
            for (int i = 0; i < ITEMS; i++) items[i] = 0;
        }

        /** Whether n items from one on are all inside. */
        boolean holds(int from, int n) {
            return from >= 0 && n >= 0 && from <= size - n;
        }
    }
}
