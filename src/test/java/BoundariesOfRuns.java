import java.math.BigInteger;

/** Who is in, and what tells so, and seeds: the second terms, promises 12 to 23. */
final class BoundariesOfRuns {
    private static final int[] PARTS = {-1, 2, Bench.LEAST, Bench.MOST};
    private static final int[] SEEDS = {0, 1, -1, 2, -2, Bench.MOST, Bench.LEAST, Bench.MOST - 1, Bench.LEAST + 1, 1 << 30, -(1 << 30),
        1103515245, -1103515245, 12345, 123456789, -987654321};

    private BoundariesOfRuns() {
    }

    static void tryAll() {
        howManyRuns();
        levelIsIn();
        nobodyAndAll();
        sets();
        setsAreFewest();
        outButNotShutOut();
        firstRuns();
        runRefusals();
        patterns();
        needsEdges();
        needsOfNine();
        sinceDays();
        sinceCounts();
        sinceNone();
        helpBits();
        helpEdges();
        withoutEdges();
        tableEdges();
        seedsByHand();
        seedsThatWrap();
        chances();
        chanceRanges();
    }

    /** Nine GAMES of b and c, while a looks on from its START. */
    private static StillInIt nine(int system, int start) {
        StillInIt x = Bench.group(system, "team a; team b; team c; start a " + start);
        Bench.addGames(x, 9, "b", "c");
        return x;
    }

    private static void howManyRuns() {
        Bench.says(Bench.TERMS, "A RUN has a RESULT for each GAME that is LEFT; by WINS none is 0.");
        for (int system = 0; system <= 2; system++) {
            int runs = 1;
            for (int left = 0; left <= 6; left++) {
                StillInIt x = Bench.teams(2);
                x.system(system);
                Bench.addGames(x, left, "a", "b");
                x.sheet(0, 0, 0);
                Bench.due(left + " LEFT", x.tells(0, 0), runs);
                runs *= system == 0 ? 2 : 3;
            }
        }
        StillInIt x = Bench.group("team a; team b; game a b 1; game a b 2");
        x.play(0, 0);
        x.sheet(0, 0, 0);
        Bench.due("by WINS one was drawn", x.tells(0, 0), 2);
    }

    private static void levelIsIn() {
        Bench.says(Bench.TERMS, "nobody has more POINTS behind it than t has (REACH). t is IN, if there is one; else OUT.");
        for (int system = 0; system <= 2; system++) {
            StillInIt x = Bench.group(system, "team a; team b; team c; start b " + (2 * system + 2) + "; game a c 1; game c a 2");
            Bench.due("level by all GAMES", x.isIn(0), 1);
            Bench.text(x, "start b " + (2 * system + 3));
            Bench.due("one more", x.isIn(0), 0);
            Bench.text(x, "start a 1");
            Bench.due("level again", x.isIn(0), 1);
            int least = system == 0 ? 5 : 9;
            Bench.due("nine GAMES, level", nine(system, least).isIn(0), 1);
            Bench.due("nine GAMES, one less", nine(system, least - 1).isIn(0), 0);
        }
    }

    private static void nobodyAndAll() {
        Bench.says(12, "Whether a TEAM is IN (1, 0). BAD.");
        Bench.due("alone", Bench.teams(1).isIn(0), 1);
        Bench.due("the sixth", Bench.teams(6).isIn(5), 1);
        Bench.due("behind", Bench.group("team a; team b; start a 1").isIn(1), 0);
        Bench.due("no TEAMS", new StillInIt().isIn(0), Bench.BAD);
        Bench.due("no such one", Bench.teams(6).isIn(6), Bench.BAD);
        Bench.says(13, "TEAMS (bits) that are IN.");
        for (int n = 0; n <= 6; n++) Bench.due("all of " + n + " level", Bench.teams(n).all(), (1 << n) - 1);
        StillInIt x = Bench.teams(6);
        Bench.text(x, "start f 9");
        Bench.due("the sixth alone", x.all(), 32);
        Bench.addGames(x, 9, "a", "b");
        Bench.due("two by nine GAMES", x.all(), 1 + 2 + 32);
        x.play(8, 0);
        Bench.due("one GAME less", x.all(), 32);
        StillInIt y = nine(0, 4);
        Bench.due("the one who looks on is OUT", y.all(), 6);
    }

    private static void sets() {
        Bench.says(Bench.TERMS, "A GAME gives (at least) W: by WINS 1, by SHARES and THREES 2.");
        int[] gives = {1, 2, 2};
        for (int system = 0; system <= 2; system++) {
            StillInIt x = Bench.group(system, "team a; team b; team c; game b c 1");
            Bench.due("SET", x.set(0, 0), 6);
            Bench.due("ABOVE", x.set(0, 1), gives[system]);
            StillInIt y = nine(system, 0);
            Bench.due("SET by nine", y.set(0, 0), 6);
            Bench.due("ABOVE by nine", y.set(0, 1), 9 * gives[system]);
        }
        Bench.says(14, "SET of a TEAM (what 0; bits), ABOVE of it (1). BAD.");
        StillInIt x = Bench.group("team a; team b");
        for (int what : PARTS) Bench.due("what " + what, x.set(0, what), Bench.BAD);
        Bench.due("what 0", x.set(0, 0), 0);
        Bench.due("what 1", x.set(0, 1), 0);
        Bench.says(Bench.TERMS, "t is SHUT OUT, if it is above 0.");
        Bench.due("just not", nine(1, 9).set(0, 1), 0);
        Bench.due("not SHUT OUT, IN", nine(1, 9).isIn(0), 1);
        Bench.due("just so", nine(1, 8).set(0, 1), 2);
        Bench.due("just so by WINS", nine(0, 4).set(0, 1), 1);
        Bench.due("just not by WINS", nine(0, 5).set(0, 1), 0);
    }

    private static void setsAreFewest() {
        Bench.says(Bench.TERMS, "(none of them: 0), of like ones those who are fewest");
        Bench.due("alone", Bench.teams(1).set(0, 0), 0);
        Bench.due("all level", Bench.teams(6).set(3, 0), 0);
        Bench.due("all level", Bench.teams(6).set(3, 1), 0);
        StillInIt x = Bench.teams(6);
        Bench.text(x, "start f 1");
        Bench.due("not those who are level", x.set(0, 0), 32);
        Bench.due("by one", x.set(0, 1), 1);
        for (int u = 1; u < 6; u++) Bench.text(x, "start " + (char) ('a' + u) + " 9");
        Bench.due("all five others", x.set(0, 0), 62);
        Bench.due("by 45", x.set(0, 1), 45);
        // d brings 0 and a GAME with b, less 1: nothing; with two GAMES it brings 1.
        StillInIt y = Bench.group("team a; team b; team c; team d; start a 1; start b 2; game b d 1");
        Bench.due("who brings nothing", y.set(0, 0), 2);
        Bench.text(y, "game d b 2");
        Bench.due("who brings 1", y.set(0, 0), 2 + 8);
        Bench.due("by 2", y.set(0, 1), 2);
        Bench.says(Bench.TERMS, "SET of t: the TEAMS of which that is greatest");
        StillInIt last = Bench.group("team a; team b; team c; team d; game a b 1");
        Bench.due("two, though one alone is level", last.set(3, 0), 3);
        Bench.due("by 1", last.set(3, 1), 1);
        Bench.says(Bench.TERMS, "less REACH of t times how many they are");
        Bench.text(y, "game a d 3");
        Bench.due("own GAMES count to REACH alone", y.set(0, 0), 0);
        y.play(2, 2);
        Bench.due("a lost one", y.set(0, 0), 2 + 8);
        Bench.due("a lost one", y.set(0, 1), 3);
    }

    private static void outButNotShutOut() {
        Bench.says(Bench.TERMS, "(By WINS and SHARES whoever is OUT is SHUT OUT; by THREES perhaps not.)");
        StillInIt x = Bench.group(2, "team a; team b; team c; team d; start a 4; start b 3; start c 3; game b d 1; game c d 1; game b c 1");
        Bench.due("by THREES OUT", x.isIn(0), 0);
        Bench.due("not SHUT OUT", x.set(0, 1), 0);
        Bench.due("no SET", x.set(0, 0), 0);
        Bench.due("no RUN", x.run(0, 0), Bench.NONE);
        Bench.due("no PATTERN", x.pattern(0), Bench.NONE);
        Bench.due("no NEEDS", x.needs(0, 0), Bench.NONE);
        Bench.due("OUT SINCE", x.since(0, 0), 0);
        Bench.due("no HELP", x.help(0, 0), 0);
        x.system(1);
        Bench.due("by SHARES IN", x.isIn(0), 1);
    }

    private static void runIs(String label, StillInIt x, int team, int... results) {
        for (int k = 0; k < results.length; k++) Bench.due(label + ", GAME " + k, x.run(team, k), results[k]);
    }

    private static void firstRuns() {
        Bench.says(Bench.TERMS, "of these the first by GAMES' numbers, a 1 ahead of a 2, a 2 ahead of a 0");
        runIs("by WINS, room for all", nine(0, 9), 0, 1, 1, 1, 1, 1, 1, 1, 1, 1);
        runIs("by WINS, just room", nine(0, 5), 0, 1, 1, 1, 1, 1, 2, 2, 2, 2);
        runIs("by SHARES", nine(1, 9), 0, 1, 1, 1, 1, 2, 2, 2, 2, 0);
        runIs("by THREES all drawn", nine(2, 9), 0, 0, 0, 0, 0, 0, 0, 0, 0, 0);
        runIs("OUT", nine(0, 4), 0, -1, -1, -1, -1, -1, -1, -1, -1, -1);
        runIs("who plays as the ONE", nine(2, 9), 1, 1, 1, 1, 1, 1, 1, 1, 1, 1);
        runIs("who plays as the OTHER", nine(2, 9), 2, 2, 2, 2, 2, 2, 2, 2, 2, 2);
        StillInIt x = nine(1, 9);
        x.play(8, 1);
        runIs("b has 2", x, 0, 1, 1, 1, 2, 2, 2, 2, 0, -3);
    }

    private static void runRefusals() {
        Bench.says(15, "BAD; STATE: the GAME is PLAYED; behind that NONE: the TEAM is OUT.");
        StillInIt x = Bench.group("team a; team b; start b 9; game a b 1; game a b 2");
        x.play(0, 1);
        Bench.due("PLAYED, and OUT", x.run(0, 0), Bench.STATE);
        Bench.due("LEFT, and OUT", x.run(0, 1), Bench.NONE);
        Bench.due("PLAYED, and IN", x.run(1, 0), Bench.STATE);
        Bench.due("LEFT, and IN", x.run(1, 1), 2);
        Bench.due("no such TEAM, PLAYED", x.run(2, 0), Bench.BAD);
        Bench.due("no such GAME, OUT", x.run(0, 2), Bench.BAD);
        Bench.due("no GAMES", Bench.teams(2).run(0, 0), Bench.BAD);
    }

    private static void patterns() {
        Bench.says(Bench.TERMS, "PATTERN of t: that of fewest GAMES, of like ones the least; NONE: t is OUT.");
        Bench.due("none need be drawn", nine(2, 9).pattern(1), 0);
        Bench.due("all nine are drawn", nine(2, 9).pattern(0), 511);
        Bench.due("one of nine, the least", nine(1, 9).pattern(0), 1);
        Bench.due("by WINS none", nine(0, 5).pattern(0), 0);
        Bench.due("by WINS OUT", nine(0, 4).pattern(0), Bench.NONE);
        Bench.due("by SHARES OUT", nine(1, 8).pattern(0), Bench.NONE);
        Bench.due("by THREES OUT", nine(2, 8).pattern(0), Bench.NONE);
        StillInIt x = nine(2, 9);
        for (int k = 0; k < 8; k++) x.play(k, 0);
        Bench.due("the last alone", x.pattern(0), 256);
        x.play(8, 0);
        Bench.due("none LEFT", x.pattern(0), 0);
        x.unplay(0);
        Bench.due("the first alone", x.pattern(0), 1);
        Bench.says(16, "PATTERN of a TEAM (bits; NONE). BAD.");
        Bench.due("no GAMES", Bench.teams(1).pattern(0), 0);
        Bench.due("no GAMES, OUT", Bench.group("team a; team b; start b 1").pattern(0), Bench.NONE);
        Bench.due("no TEAMS", new StillInIt().pattern(0), Bench.BAD);
        Bench.says(Bench.TERMS, "A PATTERN of t are GAMES LEFT, not its own");
        StillInIt y = Bench.group(2, "team a; team b; team c; start b 1; start c 1; game a b 1; game b c 2");
        Bench.due("an own one is won, the other one is drawn", y.pattern(0), 2);
        Bench.text(y, "start c 0");
        Bench.due("c may win", y.pattern(0), 0);
        Bench.text(y, "start b 2");
        Bench.text(y, "start c 2");
        Bench.due("drawn alone", y.pattern(0), 2);
    }

    private static void needsEdges() {
        Bench.says(Bench.TERMS, "of own GAMES LEFT (bits) the fewest, of like ones the least, such that, these being won, all other own ones lost");
        StillInIt x = Bench.group("team a; team b; team c; game a b 1; game a c 2; start a 9");
        Bench.due("none need be won", x.needs(0, 0), 0);
        Bench.due("none need be won", x.needs(0, 1), 0);
        Bench.text(x, "start a 1");
        Bench.due("level by none", x.needs(0, 0), 0);
        Bench.text(x, "start a 0");
        Bench.due("one, and the other's foe is level", x.needs(0, 1), 1);
        Bench.text(x, "start c 1");
        Bench.due("the one against c", x.needs(0, 1), 2);
        Bench.text(x, "start b 1");
        Bench.due("both", x.needs(0, 1), 3);
        Bench.due("both", x.needs(0, 0), 2);
        Bench.text(x, "start b 3");
        Bench.due("by no such ones", x.needs(0, 0), Bench.NONE);
        Bench.due("by no such ones", x.needs(0, 1), Bench.NONE);
        Bench.says(17, "how many (what 0; NONE), which (1; bits; NONE). BAD.");
        for (int what : PARTS) Bench.due("what " + what, x.needs(0, what), Bench.BAD);
        Bench.due("no GAMES", Bench.teams(2).needs(0, 0), 0);
        Bench.due("no GAMES", Bench.teams(2).needs(0, 1), 0);
        StillInIt behind = Bench.group("team a; team b; start b 1");
        Bench.due("no GAMES, behind", behind.needs(0, 0), Bench.NONE);
        Bench.due("no GAMES, behind", behind.needs(0, 1), Bench.NONE);
        Bench.due("no TEAMS", new StillInIt().needs(0, 0), Bench.BAD);
    }

    private static void needsOfNine() {
        Bench.says(Bench.TERMS, "RESULTS of all others can be such that nobody has more POINTS than t; NONE: by no such ones");
        // Each won one is a's, each other one b's: a needs 5 of 9 from 0 on, the least five.
        for (int start = 0; start <= 9; start++) {
            StillInIt x = Bench.group("team a; team b; start b " + start);
            Bench.addGames(x, 9, "b", "a");
            int need = (9 + start + 1) / 2;
            Bench.due("start " + start, x.needs(0, 0), need);
            Bench.due("start " + start + ", bits", x.needs(0, 1), (1 << need) - 1);
        }
        Bench.due("all others drawn", nine(2, 9).needs(0, 0), 0);
        Bench.due("others find no way", nine(2, 8).needs(0, 0), Bench.NONE);
        Bench.due("by WINS others are not drawn", Bench.group("team a; team b; team c; game b c 1").needs(0, 0), Bench.NONE);
        StillInIt x = Bench.group(2, "team a; team b; team c; team d; start d 3; game b c 1; game a d 2; game a b 3; game a c 4");
        // a must win against d, which has 6 else; b and c, with 3 each by a, would have more behind their own one.
        Bench.due("two of three", x.needs(0, 1), 2 + 4);
        Bench.text(x, "start d 0");
        Bench.due("not the least, but the least that does", x.needs(0, 1), 4);
    }

    private static void sinceDays() {
        Bench.says(Bench.TERMS, "OUT SINCE: the first DAY (0 .. 30) as of which t is OUT.");
        for (int day = 1; day <= 30; day++) {
            StillInIt x = Bench.group("team a; team b; game a b " + day);
            Bench.due("LEFT", x.since(1, 0), Bench.NONE);
            Bench.due("LEFT, not SURE", x.since(0, 1), Bench.NONE);
            x.play(0, 1);
            Bench.due("OUT SINCE " + day, x.since(1, 0), day);
            Bench.due("SURE SINCE " + day, x.since(0, 1), day);
            Bench.due("IN", x.since(0, 0), Bench.NONE);
            Bench.due("not SURE", x.since(1, 1), Bench.NONE);
            Bench.text(x, "start a 1");
            Bench.due("with 1 more, IN as of 0", x.since(1, 0), day);
            Bench.due("with 1 more, level as of 0", x.since(0, 1), 0);
            Bench.text(x, "start a 2");
            Bench.due("with 2 more, OUT SINCE 0", x.since(1, 0), 0);
        }
        // Eight won one by one: out by the fifth, sure (level) by the fourth.
        StillInIt y = Bench.teams(2);
        for (int day = 23; day <= 30; day++) {
            Bench.text(y, "game a b " + day);
            Bench.text(y, "won a b");
        }
        Bench.due("OUT by the fifth", y.since(1, 0), 27);
        Bench.due("SURE by the fourth", y.since(0, 1), 26);
    }

    private static void sinceCounts() {
        Bench.says(Bench.TERMS, "AS OF a DAY d: GAMES on later DAYS count as LEFT, whatever they are.");
        StillInIt x = Bench.group("team a; team b; game a b 7; game a b 8; game a b 8");
        x.play(0, 2);
        x.play(1, 1);
        x.play(2, 1);
        Bench.due("IN as of 7", x.since(1, 0), 8);
        Bench.due("SURE as of 8", x.since(0, 1), 8);
        Bench.due("nothing is changed", x.count(2), 0);
        x.unplay(2);
        Bench.due("one of day 8 is LEFT", x.since(1, 0), Bench.NONE);
        Bench.text(x, "start a 2");
        Bench.due("level as of 8, one LEFT", x.since(0, 1), 8);
        StillInIt y = Bench.group("team a; team b; game a b 1; game a b 30");
        y.play(1, 1);
        Bench.due("LEFT ones of earlier DAYS stay LEFT", y.since(1, 0), Bench.NONE);
        Bench.due("level at last", y.since(0, 1), 30);
        // By WINS a GAME LEFT gives 1, one that was drawn gives nothing: who is OUT as of 0 can be IN as of a later DAY.
        StillInIt z = Bench.group("team a; team b; team c; game b c 30; drew b c");
        Bench.due("IN now", z.isIn(0), 1);
        Bench.due("the first DAY as of which it is OUT", z.since(0, 0), 0);
        Bench.due("the first DAY as of which it is SURE", z.since(0, 1), 30);
    }

    private static void sinceNone() {
        Bench.says(18, "OUT SINCE (what 0), SURE SINCE (1): a DAY; NONE. BAD.");
        StillInIt x = Bench.group("team a; team b; game a b 1");
        for (int what : PARTS) Bench.due("what " + what, x.since(0, what), Bench.BAD);
        Bench.due("alone", Bench.teams(1).since(0, 0), Bench.NONE);
        Bench.due("alone SURE", Bench.teams(1).since(0, 1), 0);
        Bench.due("no GAMES, level", Bench.teams(6).since(5, 1), 0);
        StillInIt behind = Bench.group("team a; team b; start b 1");
        Bench.due("no GAMES, behind", behind.since(0, 0), 0);
        Bench.due("no GAMES, behind", behind.since(0, 1), Bench.NONE);
        Bench.due("no TEAMS", new StillInIt().since(0, 0), Bench.BAD);
        Bench.says(Bench.TERMS, "SURE is t, if by no RUN (of any) anybody has more POINTS than t");
        for (int system = 0; system <= 2; system++) {
            StillInIt y = Bench.group(system, "team a; team b; team c; start a " + 3 * (system + 1) + "; game b c 1; game b c 2; game a b 3");
            Bench.due("level at worst", y.since(0, 1), 0);
            Bench.text(y, "start b 1");
            Bench.due("one less", y.since(0, 1), Bench.NONE);
        }
    }

    private static void helpBits() {
        Bench.says(Bench.TERMS, "RESULTS (bits 0, 1, 2; by WINS 1, 2) with which, were it PLAYED so, t is IN.");
        int[][] due = {{0, 6, 6, 6}, {0, 1, 7, 7}, {0, 1, 1, 7}};
        for (int system = 0; system <= 2; system++) {
            for (int start = 0; start <= 3; start++) {
                StillInIt x = Bench.group(system, "team a; team b; team c; start a " + start + "; game b c 1");
                Bench.due("system " + system + ", start " + start, x.help(0, 0), due[system][start]);
            }
            StillInIt y = Bench.group(system, "team a; team b; team c; start a 3; start b 3; game b c 1");
            Bench.due("the ONE must not win", y.help(0, 0), 4);
            Bench.text(y, "start b 0");
            Bench.text(y, "start c 3");
            Bench.due("the OTHER must not win", y.help(0, 0), 2);
            StillInIt own = Bench.group(system, "team a; team b; game a b 1");
            Bench.due("the ONE itself", own.help(0, 0), system == 0 ? 2 : 3);
            Bench.due("the OTHER itself", own.help(1, 0), system == 0 ? 4 : 5);
        }
    }

    private static void helpEdges() {
        Bench.says(19, "HELP for a TEAM of a GAME. BAD; STATE: it is PLAYED.");
        Bench.due("the ninth", nine(2, 9).help(0, 8), 1);
        Bench.due("the first", nine(1, 9).help(0, 0), 7);
        Bench.due("OUT", nine(2, 8).help(0, 8), 0);
        StillInIt x = nine(1, 9);
        x.play(8, 0);
        Bench.due("PLAYED", x.help(0, 8), Bench.STATE);
        Bench.due("no such TEAM, PLAYED", x.help(3, 8), Bench.BAD);
        Bench.due("no such GAME", x.help(0, 9), Bench.BAD);
        Bench.due("no GAMES", Bench.teams(2).help(0, 0), Bench.BAD);
    }

    private static void withoutEdges() {
        Bench.says(20, "WITHOUT a GAME: TEAMS (bits) that are IN. BAD.");
        StillInIt x = Bench.group("team a; team b; team c; game b c 1");
        Bench.due("who is IN", x.all(), 6);
        Bench.due("without the only one", x.without(0), 7);
        x.play(0, 2);
        Bench.due("without the only one, PLAYED", x.without(0), 7);
        Bench.due("it is there", x.count(1), 1);
        Bench.due("nine, one too many", nine(0, 4).without(8), 7);
        Bench.due("nine, one too many", nine(0, 4).without(0), 7);
        Bench.due("nine, two too many", nine(1, 7).without(8), 6);
        Bench.due("nine, one too many by SHARES", nine(1, 8).without(4), 7);
        Bench.due("no GAMES", Bench.teams(2).without(0), Bench.BAD);
        Bench.due("no TEAMS", new StillInIt().without(0), Bench.BAD);
        // Those behind the one that is thought away stay as they are: their TEAMS, and what was PLAYED.
        StillInIt z = Bench.group("team a; team b; team c; game a b 1; game a c 2; game b c 3; won c a; drew b c");
        Bench.due("by one won", z.all(), 7);
        Bench.due("without the first", z.without(0), 4);
        Bench.due("without the won one", z.without(1), 3);
        Bench.due("without the drawn one", z.without(2), 7);
        // The ninth is PLAYED, and counts when another one is thought away.
        StillInIt y = nine(0, 4);
        for (int k = 0; k < 9; k++) y.play(k, 1);
        Bench.due("eight won", y.without(3), 2);
    }

    private static void tableEdges() {
        Bench.says(Bench.TERMS, "(DEAR: more than 4 GAMES are LEFT)");
        int[][] rows = {{1, 2, 3, 4, 5}, {1, 3, 5, 7, 9}, {1, 3, 6, 10, 15}};
        for (int system = 0; system <= 2; system++) {
            for (int left = 0; left <= 9; left++) {
                StillInIt x = Bench.teams(2);
                x.system(system);
                Bench.addGames(x, left, "a", "b");
                Bench.due(left + " LEFT", x.tables(), left <= 4 ? rows[system][left] : Bench.DEAR);
                for (int k = 4; k < left; k++) x.play(k, 0);
                Bench.due("4 of " + left + " LEFT", x.tables(), rows[system][Math.min(4, left)]);
                for (int k = 0; k < left; k++) x.play(k, 1);
                Bench.due("none of " + left + " LEFT", x.tables(), 1);
            }
        }
        Bench.says(21, "TABLES. DEAR.");
        Bench.due("no TEAMS", new StillInIt().tables(), 1);
        Bench.due("no GAMES", Bench.teams(6).tables(), 1);
        Bench.due("9 LEFT", nine(0, 0).tables(), Bench.DEAR);
        StillInIt x = Bench.group(2, "team a; team b; team c; team d; team e; team f; game a b 1; game c d 1; game e f 1; game b c 1");
        for (int u = 0; u < 6; u++) Bench.text(x, "start " + (char) ('a' + u) + " 9");
        Bench.due("all unlike", x.tables(), 81);
        x.system(1);
        Bench.due("all unlike by SHARES", x.tables(), 81);
        x.system(0);
        Bench.due("all unlike by WINS", x.tables(), 16);
        // The most POINTS that there can be: 9 and five won, then up to four more.
        StillInIt y = Bench.group(2, "team a; team b; start a 9");
        Bench.addGames(y, 9, "a", "b");
        for (int k = 0; k < 5; k++) y.play(k, 1);
        Bench.due("up to 36 POINTS", y.tables(), 15);
    }

    private static void seedsByHand() {
        Bench.says(Bench.TERMS, "z being z * 1103515245 + 12345 (an int; SEED at first) anew for each");
        // The first z, as a number of 32 bits without a sign, and a third and half of its upper 23 bits:
        // most: 1043980748, upper 2039024, rests 2 and 0; least: 2147495993, upper 4194328, rests 1 and 0;
        // -1: 3191464396, upper 6233328, rests 0 and 0; 1: 1103527590, upper 2155327, rests 1 and 1.
        int[] seeds = {Bench.MOST, Bench.LEAST, -1, 1};
        int[] byShares = {2, 1, 3, 1};
        int[] byWins = {1, 1, 1, 2};
        StillInIt x = Bench.group("team a; team b; game a b 1");
        for (int i = 0; i < 4; i++) {
            x.system(0);
            Bench.due("by WINS, seed " + seeds[i], x.drawn(seeds[i]), byWins[i]);
            x.system(1);
            Bench.due("by SHARES, seed " + seeds[i], x.drawn(seeds[i]), byShares[i]);
            x.system(2);
            Bench.due("by THREES, seed " + seeds[i], x.drawn(seeds[i]), byShares[i]);
        }
        Bench.says(22, "DRAWN: TEAMS (bits) above whom nobody is.");
        Bench.due("no TEAMS", new StillInIt().drawn(Bench.MOST), 0);
        for (int n = 1; n <= 6; n++) Bench.due("no GAMES", Bench.teams(n).drawn(Bench.LEAST), (1 << n) - 1);
    }

    /** POINTS behind what is DRAWN, in numbers that do not wrap around. */
    static int[] pointsBySeed(StillInIt x, long seed) {
        int system = x.count(4);
        int[] points = new int[x.count(0)];
        for (int u = 0; u < points.length; u++) points[u] = x.told(u, 1);
        BigInteger around = BigInteger.ONE.shiftLeft(32);
        BigInteger z = BigInteger.valueOf(seed).mod(around);
        for (int k = 0; k < x.count(1); k++) {
            if (x.game(k, 3) != Bench.NONE) continue;
            z = z.multiply(BigInteger.valueOf(1103515245)).add(BigInteger.valueOf(12345)).mod(around);
            long upper = z.longValue() / 512;
            int result = (int) (system == 0 ? 1 + upper % 2 : upper % 3);
            for (int side = 0; side < 2; side++) {
                if (result == side + 1) points[x.game(k, side)] += system + 1;
                if (result == 0) points[x.game(k, side)] += 1;
            }
        }
        return points;
    }

    private static int firstBySeed(StillInIt x, long seed) {
        int[] points = pointsBySeed(x, seed);
        int bits = 0;
        for (int u = 0; u < points.length; u++) {
            boolean above = false;
            for (int p : points) above |= p > points[u];
            if (!above) bits |= 1 << u;
        }
        return bits;
    }

    private static StillInIt fullBy(int system) {
        StillInIt x = Bench.full();
        x.named();
        x.system(system);
        Bench.text(x, "start abcdef 1");
        return x;
    }

    private static void seedsThatWrap() {
        Bench.says(Bench.TERMS, "GAMES LEFT, by numbers, have RESULT (z >>> 9) % 3 (by WINS 1 + (z >>> 9) % 2)");
        for (int system = 0; system <= 2; system++) {
            for (int seed : SEEDS) {
                StillInIt x = fullBy(system);
                Bench.due("seed " + seed + " by " + system, x.drawn(seed), firstBySeed(x, seed));
                Bench.due("the same again", x.drawn(seed), firstBySeed(x, seed));
            }
        }
    }

    private static void chances() {
        Bench.says(Bench.TERMS, "IN m seeds (1 .. 20), SEED and each 1 more (an int)");
        StillInIt one = Bench.group(1, "team a; team b; game a b 1");
        // Behind the most comes the least: b wins by the one, a by the other.
        int[][] due = {{0, 1, 0, 0}, {0, 1, 1, 1}, {0, 2, 0, 1}, {0, 2, 1, 2}, {1, 1, 0, 1}, {1, 1, 1, 1}, {1, 2, 0, 1}, {1, 2, 1, 2}};
        for (int[] d : due) Bench.due("TEAM, m, part " + d[0] + d[1] + d[2], one.chance(d[0], Bench.MOST, d[1], d[2]), d[3]);
        for (int system = 0; system <= 2; system++) {
            for (int seed : new int[] {Bench.MOST, Bench.MOST - 18, Bench.MOST - 19, -10, Bench.LEAST}) {
                for (int m = 1; m <= 20; m++) {
                    int good = 0;
                    for (int i = 0; i < m; i++) good += firstBySeed(fullBy(system), (long) seed + i) & 1;
                    StillInIt y = fullBy(system);
                    int common = BigInteger.valueOf(good).gcd(BigInteger.valueOf(m)).intValue();
                    Bench.due("above, seed " + seed + ", m " + m, y.chance(0, seed, m, 0), good / common);
                    Bench.due("below, seed " + seed + ", m " + m, y.chance(0, seed, m, 1), m / common);
                }
            }
        }
    }

    private static void chanceRanges() {
        Bench.says(23, "part 0 above, 1 below the line, in lowest terms. BAD.");
        StillInIt x = Bench.group("team a; team b; start b 1");
        for (int m = 1; m <= 20; m++) {
            Bench.due("never, above", x.chance(0, m, m, 0), 0);
            Bench.due("never, below", x.chance(0, m, m, 1), 1);
            Bench.due("always, above", x.chance(1, -m, m, 0), 1);
            Bench.due("always, below", x.chance(1, -m, m, 1), 1);
        }
        for (int m : new int[] {0, 21, -1, Bench.LEAST, Bench.MOST}) {
            Bench.due("m " + m, x.chance(0, 1, m, 0), Bench.BAD);
            Bench.due("m " + m, x.chance(0, 1, m, 1), Bench.BAD);
        }
        for (int part : PARTS) Bench.due("part " + part, x.chance(0, 1, 1, part), Bench.BAD);
        Bench.due("no TEAMS", new StillInIt().chance(0, 1, 1, 0), Bench.BAD);
        Bench.due("alone", Bench.teams(1).chance(0, Bench.MOST, 20, 0), 1);
    }
}
