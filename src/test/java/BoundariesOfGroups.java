/** Teams, games, systems, the image and what is counted: the first terms, promises 1, 5 to 11, 26 to 28. */
final class BoundariesOfGroups {
    private static final int[] FAR = {-1, Bench.LEAST, Bench.MOST, -2, 64, 1 << 30};

    private BoundariesOfGroups() {
    }

    static void tryAll() {
        newObject();
        calls512();
        teamNumbers();
        gameNumbers();
        startsAndDays();
        results();
        systems();
        kinds();
        pointsAndReach();
        toldParts();
        gameParts();
        pairs();
        imageEdges();
        imageFull();
        counts();
    }

    private static void newObject() {
        Bench.says(1, "No TEAMS.");
        StillInIt x = new StillInIt();
        for (int what = 0; what <= 4; what++) Bench.due("count " + what, x.count(what), 0);
        Bench.due("all", x.all(), 0);
        Bench.due("drawn", x.drawn(Bench.LEAST), 0);
        Bench.due("tables: one row of none", x.tables(), 1);
        Bench.due("image", x.image(), 0);
        Bench.due("told of none", x.told(0, 0), Bench.BAD);
        Bench.due("game of none", x.game(0, 0), Bench.BAD);
        Bench.due("between none", x.between(0, 1), Bench.BAD);
        Bench.due("film of none", x.film(0, 1), 0);
        Bench.due("told of none: by one run", x.tells(0, 0), 1);
        Bench.due("nobody is first", x.tells(0, 1), 0);
        Bench.says(Bench.TERMS, "NONE is -1.");
        Bench.due("NONE", StillInIt.NONE, -1);
        Bench.says(Bench.TERMS, "BAD (-2: a number is none such or not as told), STATE (-3), FULL (-4), DEAR (-6)");
        Bench.due("BAD", StillInIt.BAD, -2);
        Bench.due("STATE", StillInIt.STATE, -3);
        Bench.due("FULL", StillInIt.FULL, -4);
        Bench.due("DEAR", StillInIt.DEAR, -6);
        StillInIt first = Bench.some();
        StillInIt second = new StillInIt();
        Bench.says(1, "No TEAMS.");
        Bench.due("another object has its own", second.count(0) * 10 + first.count(0), 3);
    }

    private static void calls512() {
        Bench.says(Bench.TERMS, "An object is used for at most 512 calls after it has been made");
        StillInIt x = new StillInIt();
        for (int call = 1; call <= 511; call++) x.feed(1, 97, 0, 0, 0, 0);
        Bench.due("call 512", x.count(3), 40);
        // Less than 180 calls have made this one.
        StillInIt y = Bench.full();
        for (int call = 181; call + 3 <= 512; call += 4) {
            Bench.due("play", y.play(8, call % 3), 1);
            Bench.due("image", y.image(), 9);
            Bench.due("unplay", y.unplay(8), call % 3);
            Bench.due("isIn", y.isIn(0), 1);
        }
    }

    /** What each call that takes a TEAM answers for one, when there are as many. */
    private static int[] askTeam(int teams, int t) {
        StillInIt x = Bench.teams(teams);
        if (teams > 1) Bench.text(x, "game a b 1");
        int other = t == 0 ? 1 : 0;
        return new int[] {x.told(t, 0), x.isIn(t), x.set(t, 0), x.pattern(t), x.needs(t, 0), x.since(t, 0), x.since(t, 1), x.chance(t, 0, 1, 1),
            teams > 1 ? x.between(t, other) : x.told(t, 1), teams > 1 ? x.between(other, t) : x.told(t, 1),
            teams > 1 ? x.run(t, 0) : x.told(t, 1), teams > 1 ? x.help(t, 0) : x.told(t, 1)};
    }

    private static void teamNumbers() {
        Bench.says(Bench.TERMS, "TEAMS 0 .. 5, numbered as they come");
        for (int teams = 0; teams <= 6; teams++) {
            for (int t = -2; t <= 8; t++) {
                boolean there = t >= 0 && t < teams;
                for (int answer : askTeam(teams, t)) Bench.due("TEAM " + t + " of " + teams, answer == Bench.BAD ? 0 : 1, there ? 1 : 0);
            }
            for (int t : FAR) {
                for (int answer : askTeam(teams, t)) Bench.due("TEAM " + t + " of " + teams, answer, Bench.BAD);
            }
        }
        StillInIt x = Bench.teams(6);
        for (int u = 0; u < 6; u++) Bench.due("letter of " + u, x.told(u, 10), 'a' + u);
    }

    private static int[] askGame(int games, int k) {
        StillInIt x = Bench.teams(3);
        Bench.addGames(x, games, "a", "b");
        return new int[] {x.game(k, 2), x.run(0, k), x.help(2, k), x.without(k), x.play(k, 0), x.unplay(k)};
    }

    private static void gameNumbers() {
        Bench.says(Bench.TERMS, "GAMES 0 .. 8, numbered as they come, are of two unlike TEAMS, the ONE and the OTHER");
        for (int games = 0; games <= 9; games++) {
            for (int k = -2; k <= 11; k++) {
                boolean there = k >= 0 && k < games;
                for (int answer : askGame(games, k)) Bench.due("GAME " + k + " of " + games, answer == Bench.BAD ? 0 : 1, there ? 1 : 0);
            }
            for (int k : FAR) {
                for (int answer : askGame(games, k)) Bench.due("GAME " + k + " of " + games, answer, Bench.BAD);
            }
        }
        StillInIt x = Bench.full();
        for (int k = 0; k < 9; k++) {
            Bench.due("ONE of " + k, x.game(k, 0), k % 6);
            Bench.due("OTHER of " + k, x.game(k, 1), (k + 1 + k / 6) % 6);
            Bench.due("DAY of " + k, x.game(k, 2), 30 - k);
        }
        Bench.says(Bench.TERMS, "each is LEFT (at first) or PLAYED");
        StillInIt y = Bench.group("team a; team b; game a b 1");
        Bench.due("LEFT at first", y.game(0, 3), Bench.NONE);
        Bench.row(y, 0, 1, 0, 1, 1);
        y.load(0, 1, 0, 1);
        Bench.due("LEFT at first", y.game(1, 3), Bench.NONE);
        y.play(1, 1);
        y.image();
        y.back();
        Bench.due("still PLAYED", y.game(1, 3), 1);
        // A game that comes where a played one was is LEFT, too.
        StillInIt z = Bench.teams(2);
        z.image();
        Bench.text(z, "game a b 1");
        z.play(0, 2);
        z.back();
        Bench.text(z, "game a b 1");
        Bench.due("LEFT where another one was", z.game(0, 3), Bench.NONE);
    }

    private static void startsAndDays() {
        Bench.says(Bench.TERMS, "START (0 .. 9; 0 at first)");
        StillInIt x = Bench.teams(6);
        for (int u = 0; u < 6; u++) Bench.due("0 at first", x.told(u, 0), 0);
        Bench.due("start 9", Bench.text(x, "start f 9"), 5);
        Bench.due("9", x.told(5, 0), 9);
        Bench.due("start 10", Bench.text(x, "start f 10"), -108);
        Bench.due("still 9", x.told(5, 0), 9);
        Bench.due("start 0", Bench.text(x, "start f 0"), 5);
        Bench.due("0", x.told(5, 0), 0);
        StillInIt y = new StillInIt();
        y.image();
        Bench.text(y, "team a");
        Bench.text(y, "start a 7");
        y.back();
        Bench.text(y, "team b");
        Bench.due("0 at first, where another one was", y.told(0, 0), 0);
        Bench.says(Bench.TERMS, "on a DAY (1 .. 30)");
        int[] days = {0, 1, 30, 31};
        for (int d : days) {
            boolean day = d == 1 || d == 30;
            StillInIt z = Bench.teams(2);
            Bench.due("text of day " + d, Bench.text(z, "game a b " + d), day ? 0 : -109);
            Bench.row(z, 0, 1, 0, 1, d);
            Bench.due("load of day " + d, z.load(0, 1, 0, 1), day ? 1 : 0);
        }
    }

    private static void results() {
        Bench.says(6, "A GAME LEFT is PLAYED with a RESULT (0 .. 2): 1. BAD; STATE: it is PLAYED.");
        for (int system = 0; system <= 2; system++) {
            for (int result = -2; result <= 4; result++) {
                StillInIt x = Bench.group(system, "team a; team b; game a b 1");
                boolean such = result >= 0 && result <= 2;
                Bench.due("play " + result, x.play(0, result), such ? 1 : Bench.BAD);
                Bench.due("its result", x.game(0, 3), such ? result : Bench.NONE);
                Bench.due("play again", x.play(0, 1), such ? Bench.STATE : 1);
                Bench.due("its result", x.game(0, 3), such ? result : 1);
            }
        }
        StillInIt x = Bench.group("team a; team b; game a b 1");
        Bench.due("the least", x.play(0, Bench.LEAST), Bench.BAD);
        Bench.due("the most", x.play(0, Bench.MOST), Bench.BAD);
        Bench.says(7, "A PLAYED GAME is LEFT again: its RESULT. BAD; STATE: it is LEFT.");
        for (int result = 0; result <= 2; result++) {
            StillInIt y = Bench.group("team a; team b; game a b 1");
            Bench.due("it is LEFT", y.unplay(0), Bench.STATE);
            y.play(0, result);
            Bench.due("its result", y.unplay(0), result);
            Bench.due("it is LEFT", y.unplay(0), Bench.STATE);
            Bench.due("LEFT", y.game(0, 3), Bench.NONE);
            Bench.due("and can be played", y.play(0, 2 - result), 1);
        }
        Bench.due("no GAMES", Bench.teams(2).unplay(0), Bench.BAD);
        Bench.says(Bench.TERMS, "RESULT: 1 the ONE won, 2 the OTHER won, 0 drawn. Who lost has nothing by it.");
        for (int system = 0; system <= 2; system++) {
            for (int result = 0; result <= 2; result++) {
                StillInIt y = Bench.group(system, "team a; team b; game a b 1");
                y.play(0, result);
                int drawn = system == 0 ? 0 : 1;
                Bench.due("the ONE", y.told(0, 1), result == 1 ? system + 1 : result == 0 ? drawn : 0);
                Bench.due("the OTHER", y.told(1, 1), result == 2 ? system + 1 : result == 0 ? drawn : 0);
            }
        }
    }

    private static void systems() {
        Bench.says(5, "SYSTEM becomes k: which it was. BAD.");
        for (int was = 0; was <= 2; was++) {
            for (int k = -2; k <= 4; k++) {
                StillInIt x = new StillInIt();
                x.system(was);
                boolean such = k >= 0 && k <= 2;
                Bench.due("system " + k, x.system(k), such ? was : Bench.BAD);
                Bench.due("it is", x.count(4), such ? k : was);
            }
        }
        Bench.due("the least", new StillInIt().system(Bench.LEAST), Bench.BAD);
        Bench.due("the most", new StillInIt().system(Bench.MOST), Bench.BAD);
        Bench.says(Bench.TERMS, "0 WINS 1 and 0; 1 SHARES under WINS: WON twice as much, DRAWN 1 more; "
            + "2 THREES under SHARES: WON 1 more than SHARES, DRAWN as SHARES.");
        int[] won = {1, 2, 3};
        int[] drawn = {0, 1, 1};
        for (int k = 0; k <= 2; k++) {
            StillInIt x = Bench.group(k, "team a; team b; game a b 1; game a b 2; game a b 3; won a b");
            Bench.due("WON", x.told(0, 1), won[k]);
            x.play(1, 0);
            x.play(2, 0);
            Bench.due("WON and two DRAWN", x.told(0, 1), won[k] + 2 * drawn[k]);
            Bench.due("two DRAWN", x.told(1, 1), 2 * drawn[k]);
        }
        Bench.says(Bench.TERMS, "SYSTEMS (0 at first)");
        Bench.due("0 at first", new StillInIt().count(4), 0);
        Bench.due("0 at first", new StillInIt().system(2), 0);
    }

    private static void kinds() {
        Bench.says(11, "A SYSTEM (as it is now) taken for one of KIND k, or one under that: what WON brings. BAD; -13.");
        for (int system = 0; system <= 2; system++) {
            for (int k = 0; k <= 2; k++) {
                StillInIt x = new StillInIt();
                x.system(system);
                Bench.due(system + " taken for " + k, x.taken(k), k <= system ? system + 1 : Bench.UNLIKE);
                for (int far : new int[] {-1, 3, Bench.LEAST, Bench.MOST}) Bench.due("taken for " + far, x.taken(far), Bench.BAD);
            }
        }
        StillInIt x = new StillInIt();
        x.system(2);
        x.image();
        x.system(0);
        Bench.due("as it is now", x.taken(2), Bench.UNLIKE);
        x.back();
        Bench.due("as it is now", x.taken(2), 3);
    }

    private static void pointsAndReach() {
        Bench.says(Bench.TERMS, "POINTS of a TEAM: START and what its PLAYED GAMES bring. REACH: POINTS, were all its GAMES LEFT won by it.");
        for (int system = 0; system <= 2; system++) {
            StillInIt x = Bench.group(system, "team a; team b; team c; start a 9; start c 4");
            Bench.due("no GAMES: POINTS", x.told(0, 1), 9);
            Bench.due("no GAMES: REACH", x.told(0, 2), 9);
            Bench.due("no GAMES: LEFT", x.told(0, 3), 0);
            Bench.addGames(x, 9, "a", "b");
            Bench.due("9 LEFT: POINTS", x.told(0, 1), 9);
            Bench.due("9 LEFT: REACH", x.told(0, 2), 9 + 9 * (system + 1));
            Bench.due("9 LEFT: REACH of the OTHER", x.told(1, 2), 9 * (system + 1));
            Bench.due("9 LEFT: bits", x.told(0, 3), 511);
            Bench.due("9 LEFT: bits of the OTHER", x.told(1, 3), 511);
            Bench.due("who has none", x.told(2, 2), 4);
            Bench.due("who has none: bits", x.told(2, 3), 0);
            for (int k = 0; k < 9; k++) x.play(k, 1);
            Bench.due("9 won: POINTS", x.told(0, 1), 9 + 9 * (system + 1));
            Bench.due("9 won: REACH", x.told(0, 2), 9 + 9 * (system + 1));
            Bench.due("9 lost: REACH", x.told(1, 2), 0);
            x.unplay(8);
            Bench.due("one LEFT: bits", x.told(1, 3), 256);
            Bench.due("one LEFT: REACH", x.told(1, 2), system + 1);
        }
    }

    private static void toldParts() {
        Bench.says(8, "letter what - 10 of it (10 .. 15; NONE). BAD.");
        StillInIt x = Bench.group("team a; team uvwxyz; team bcd");
        for (int what = -1; what <= 17; what++) {
            boolean such = what >= 0 && what <= 4 || what >= 10 && what <= 15;
            for (int t = 0; t < 3; t++) {
                int answer = x.told(t, what);
                Bench.due("told " + t + ", " + what, answer == Bench.BAD ? 0 : 1, such ? 1 : 0);
            }
        }
        int[] far = {Bench.LEAST, Bench.MOST, -10, 100};
        for (int what : far) Bench.due("told 0, " + what, x.told(0, what), Bench.BAD);
        String[] names = {"a", "uvwxyz", "bcd"};
        for (int t = 0; t < 3; t++) {
            Bench.due("size", x.told(t, 4), names[t].length());
            for (int i = 0; i < 6; i++) {
                Bench.due("letter " + i, x.told(t, 10 + i), i < names[t].length() ? names[t].charAt(i) : Bench.NONE);
            }
        }
        StillInIt y = new StillInIt();
        y.image();
        Bench.text(y, "team abcdef");
        y.back();
        Bench.text(y, "team z");
        Bench.due("no letter of who is gone", y.told(0, 11), Bench.NONE);
        Bench.due("no letter of who is gone", y.told(0, 15), Bench.NONE);
    }

    private static void gameParts() {
        Bench.says(9, "DAY (2), RESULT (3; NONE: it is LEFT). BAD.");
        StillInIt x = Bench.group("team a; team b; game b a 30");
        int[] whats = {-1, 0, 1, 2, 3, 4, Bench.LEAST, Bench.MOST};
        int[] due = {Bench.BAD, 1, 0, 30, Bench.NONE, Bench.BAD, Bench.BAD, Bench.BAD};
        for (int i = 0; i < whats.length; i++) Bench.due("game 0, " + whats[i], x.game(0, whats[i]), due[i]);
        for (int r = 0; r <= 2; r++) {
            x.play(0, r);
            Bench.due("PLAYED", x.game(0, 3), r);
            x.unplay(0);
        }
    }

    private static void pairs() {
        Bench.says(10, "GAMES (bits) between two unlike TEAMS, PLAYED or LEFT. BAD.");
        StillInIt x = Bench.teams(6);
        for (int u = 0; u < 6; u++) {
            for (int v = 0; v < 6; v++) Bench.due("no GAMES", x.between(u, v), u == v ? Bench.BAD : 0);
        }
        Bench.addGames(x, 8, "e", "f");
        Bench.text(x, "game f e 1");
        Bench.due("nine", x.between(4, 5), 511);
        Bench.due("nine", x.between(5, 4), 511);
        Bench.due("none", x.between(4, 3), 0);
        for (int k = 0; k < 9; k++) x.play(k, k % 3);
        Bench.due("nine PLAYED", x.between(4, 5), 511);
    }

    private static void imageEdges() {
        Bench.says(27, "STATE: there is none.");
        StillInIt x = Bench.some();
        Bench.due("there is one", x.back(), 1);
        Bench.due("it stays", x.back(), 1);
        Bench.due("there is none", Bench.teams(3).back(), Bench.STATE);
        Bench.due("there is none", new StillInIt().back(), Bench.STATE);
        Bench.says(26, "AN IMAGE is kept: how many GAMES.");
        StillInIt y = new StillInIt();
        Bench.due("no GAMES", y.image(), 0);
        Bench.text(y, "team a");
        Bench.text(y, "team b");
        Bench.text(y, "game a b 1");
        y.system(1);
        Bench.due("back to nothing", y.back(), 0);
        for (int what = 0; what <= 4; what++) Bench.due("nothing", y.count(what), 0);
        Bench.due("the name is free", Bench.text(y, "team a"), 0);
        Bench.due("the later one is kept", y.image(), 0);
        Bench.text(y, "team b");
        y.back();
        Bench.due("the later one", y.count(0), 1);
    }

    private static void imageFull() {
        Bench.says(Bench.TERMS, "AN IMAGE keeps TEAMS, GAMES, SYSTEM.");
        StillInIt x = Bench.full();
        for (int k = 1; k < 9; k++) x.play(k, 0);
        Bench.named(x, "");
        Bench.text(x, "start f 5");
        Bench.feed(x, "abc");
        x.sheet(0, 0, 1);
        Bench.due("nine", x.back(), 9);
        Bench.due("TEAMS", x.count(0), 6);
        Bench.due("GAMES", x.count(1), 9);
        Bench.due("LEFT", x.count(2), 9);
        Bench.due("SYSTEM", x.count(4), 1);
        Bench.due("START", x.told(5, 0), 2);
        Bench.due("not THE TAPE", x.count(3), 3);
        Bench.due("not the SHEETS", x.put(0, 1, 0), Bench.OUTSIDE);
        Bench.says(27, "All that it keeps is as in THE IMAGE: how many GAMES.");
        Bench.due("nine again", x.back(), 9);
        x.play(8, 2);
        Bench.due("the image has its own", x.back(), 9);
        Bench.due("LEFT", x.game(8, 3), Bench.NONE);
        Bench.due("full as it was", Bench.text(x, "game b c 1"), -100);
        Bench.due("full as it was", Bench.text(x, "game b c 1"), Bench.FULL);
    }

    private static void counts() {
        Bench.says(28, "0 TEAMS, 1 GAMES, 2 of these LEFT, 3 bytes of THE TAPE; SYSTEM (4). BAD.");
        StillInIt x = Bench.full();
        int[] due = {6, 9, 8, 40, 2};
        for (int what = 0; what <= 4; what++) Bench.due("count " + what, x.count(what), due[what]);
        int[] far = {-1, 5, Bench.LEAST, Bench.MOST};
        for (int what : far) Bench.due("count " + what, x.count(what), Bench.BAD);
        for (int k = 1; k < 9; k++) x.play(k, 0);
        Bench.due("none LEFT", x.count(2), 0);
        for (int k = 0; k < 9; k++) x.unplay(k);
        Bench.due("all LEFT", x.count(2), 9);
    }
}
