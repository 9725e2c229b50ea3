/** Sheets and what they tell: the third terms, promises 24, 25, 29 to 32. */
final class BoundariesOfSheets {
    private static final int[] NO_SHEETS = {-1, 4, Bench.LEAST, Bench.MOST};

    private BoundariesOfSheets() {
    }

    static void tryAll() {
        numbersAndSorts();
        sizes();
        allZero();
        missing();
        putPlaces();
        putBytes();
        putInts();
        copyPlaces();
        copyEmptyAndFull();
        copyOverItself();
        copyRefusals();
        toldSizes();
        toldRuns();
        toldFirst();
        tellsRefusals();
        films();
        filmReplaces();
        loadCounts();
        loadLeavesOut();
        loadPlaces();
        loadSorts();
        loadFull();
    }

    private static void numbersAndSorts() {
        Bench.says(Bench.TERMS, "SHEETS 0 .. 3 are rows of numbers, or missing (as all are at first): of sort 0 bytes, 1 ints.");
        StillInIt x = new StillInIt();
        for (int s = 0; s <= 3; s++) Bench.due("missing at first", x.put(s, 0, 0), Bench.MISSING);
        for (int s : NO_SHEETS) {
            Bench.due("sheet " + s, x.sheet(s, 0, 1), Bench.BAD);
            Bench.due("sheet " + s + " to be missing", x.sheet(s, -1, 1), Bench.BAD);
            Bench.due("put " + s, x.put(s, 0, 0), Bench.BAD);
            Bench.due("copy " + s, x.copy(s, 0, 0, 0, 0), Bench.BAD);
            Bench.due("copy to " + s, x.copy(0, 0, s, 0, 0), Bench.BAD);
            Bench.due("load " + s, x.load(s, 0, 0, 0), Bench.BAD);
            Bench.due("tells " + s, x.tells(s, 0), Bench.BAD);
            Bench.due("film " + s, x.film(s, 0), Bench.BAD);
        }
        for (int s = 0; s <= 3; s++) {
            Bench.due("sheet " + s, x.sheet(s, s % 2, s + 1), 1);
            Bench.due("its last", x.put(s, s, 1), 1);
            Bench.due("behind it", x.put(s, s + 1, 1), Bench.OUTSIDE);
        }
    }

    private static void sizes() {
        Bench.says(29, "BAD: no such SHEET, sort; n above 40; -14.");
        StillInIt x = new StillInIt();
        for (int sort = 0; sort <= 1; sort++) {
            int[] sizes = {-1, 0, 1, 39, 40, 41, Bench.LEAST, Bench.MOST};
            for (int n : sizes) {
                int due = n > 40 ? Bench.BAD : n < 0 ? Bench.NEGATIVE : 1;
                Bench.due("n " + n, x.sheet(0, sort, n), due);
                if (due != 1) continue;
                for (int i : new int[] {-1, n - 1, n}) Bench.due("item " + i, x.put(0, i, 1), i >= 0 && i < n ? 1 : Bench.OUTSIDE);
            }
        }
        int[] sorts = {-2, 2, 3, Bench.LEAST, Bench.MOST};
        for (int sort : sorts) {
            Bench.due("sort " + sort, x.sheet(0, sort, 1), Bench.BAD);
            Bench.due("sort " + sort + " ahead of -14", x.sheet(0, sort, -1), Bench.BAD);
        }
        Bench.due("no such SHEET ahead of -14", x.sheet(4, 0, -1), Bench.BAD);
        Bench.due("it stays of 40", x.put(0, 39, 1), 1);
    }

    private static void allZero() {
        Bench.says(29, "A SHEET becomes a row of n of a sort, all 0");
        for (int sort = 0; sort <= 1; sort++) {
            StillInIt x = Bench.teams(2);
            x.sheet(0, sort, 40);
            for (int i = 0; i < 40; i++) x.put(0, i, 77);
            x.sheet(0, sort, 3);
            x.sheet(0, sort, 40);
            x.sheet(3, sort, 2);
            for (int i = 0; i < 40; i++) {
                x.copy(0, i, 3, 0, 1);
                Bench.due("item " + i + " beside 0", x.tells(3, 1), 3);
            }
        }
    }

    private static void missing() {
        Bench.says(29, "or missing (sort -1: n does not matter): 1");
        StillInIt x = Bench.teams(2);
        for (int n : new int[] {0, -1, 40, 41, Bench.LEAST, Bench.MOST}) {
            x.sheet(0, 1, 2);
            Bench.due("n " + n, x.sheet(0, -1, n), 1);
            Bench.due("missing", x.put(0, 0, 0), Bench.MISSING);
            Bench.due("missing again", x.sheet(0, -1, n), 1);
        }
        x.sheet(0, 1, 2);
        x.put(0, 1, 5);
        x.sheet(0, -1, 0);
        x.sheet(0, 1, 2);
        Bench.due("all 0 behind that", x.tells(0, 1), 3);
    }

    private static void putPlaces() {
        Bench.says(30, "BAD: no such SHEET; -11; -12.");
        for (int sort = 0; sort <= 1; sort++) {
            StillInIt x = new StillInIt();
            for (int i : new int[] {0, -1, 40, Bench.LEAST, Bench.MOST}) {
                Bench.due("missing, item " + i, x.put(2, i, 0), Bench.MISSING);
                Bench.due("no such SHEET, item " + i, x.put(4, i, 0), Bench.BAD);
            }
            x.sheet(2, sort, 40);
            for (int i : new int[] {-1, 40, Bench.LEAST, Bench.MOST}) Bench.due("item " + i, x.put(2, i, 0), Bench.OUTSIDE);
            for (int i : new int[] {0, 39}) Bench.due("item " + i, x.put(2, i, 0), 1);
            x.sheet(2, sort, 0);
            for (int i : new int[] {-1, 0, 1}) Bench.due("size 0, item " + i, x.put(2, i, 0), Bench.OUTSIDE);
        }
    }

    private static void putBytes() {
        Bench.says(30, "Item i of a SHEET becomes v (of bytes its lowest 8 bits): 1");
        int[] values = {0, 1, 127, 128, 255, 256, 257, 511, -1, -255, -256, -257, Bench.LEAST, Bench.MOST, 0x12345678};
        for (int v : values) {
            StillInIt x = Bench.teams(2);
            x.sheet(0, 0, 1);
            Bench.due("put " + v, x.put(0, 0, v), 1);
            Bench.due("the byte of " + v, Bench.item(x, 0, 0, 0), v & 255);
        }
    }

    private static void putInts() {
        Bench.says(30, "Item i of a SHEET becomes v");
        int[] values = {0, 1, -1, 255, 256, -256, Bench.LEAST, Bench.LEAST + 1, Bench.MOST, Bench.MOST - 1, 1 << 30};
        for (int v : values) {
            StillInIt x = Bench.teams(2);
            x.sheet(0, 1, 3);
            Bench.due("put " + v, x.put(0, 1, v), 1);
            Bench.due("the int", Bench.item(x, 0, 1, 1), v);
            Bench.due("the one ahead", Bench.item(x, 0, 1, 0), 0);
            Bench.due("the one behind", Bench.item(x, 0, 1, 2), 0);
        }
    }

    private static void copyPlaces() {
        Bench.says(31, "-12 (also with n below 0)");
        int[] edges = {-1, 0, 1, 2, 3, 4, 5, 6, Bench.LEAST, Bench.MOST};
        for (int i : edges) {
            for (int j : edges) {
                for (int n : edges) {
                    StillInIt x = new StillInIt();
                    x.sheet(0, 1, 5);
                    x.sheet(1, 1, 3);
                    boolean inside = i >= 0 && j >= 0 && n >= 0 && (long) i + n <= 5 && (long) j + n <= 3;
                    Bench.due("copy of " + n + " from " + i + " to " + j, x.copy(0, i, 1, j, n), inside ? n : Bench.OUTSIDE);
                }
            }
        }
    }

    private static void copyEmptyAndFull() {
        Bench.says(31, "n numbers of a SHEET, from item i on, come to another one's item j on (as they were): n");
        StillInIt x = new StillInIt();
        x.sheet(0, 0, 0);
        x.sheet(1, 0, 0);
        Bench.due("none of none", x.copy(0, 0, 1, 0, 0), 0);
        Bench.due("one of none", x.copy(0, 0, 1, 0, 1), Bench.OUTSIDE);
        Bench.due("behind none", x.copy(0, 1, 1, 0, 0), Bench.OUTSIDE);
        for (int sort = 0; sort <= 1; sort++) {
            StillInIt y = Bench.full();
            y.sheet(2, sort, 40);
            int from = 1 - sort;
            Bench.due("40", y.copy(from, 0, 2, 0, 40), 40);
            Bench.due("41", y.copy(from, 0, 2, 0, 41), Bench.OUTSIDE);
            Bench.due("40 from 1", y.copy(from, 1, 2, 0, 40), Bench.OUTSIDE);
            Bench.due("40 to 1", y.copy(from, 0, 2, 1, 40), Bench.OUTSIDE);
            Bench.due("the first", Bench.item(y, 2, sort, 0), Bench.knownItem(sort, 0));
            Bench.due("the last", Bench.item(y, 2, sort, 39), Bench.knownItem(sort, 39));
        }
        StillInIt z = Bench.full();
        z.sheet(2, 1, 40);
        Bench.due("one", z.copy(0, 39, 2, 1, 1), 1);
        int[] due = {0, Bench.knownItem(1, 39), 0};
        for (int i = 0; i < 3; i++) Bench.due("item " + i, Bench.item(z, 2, 1, i), due[i]);
    }

    private static void copyOverItself() {
        Bench.says(31, "(as they were)");
        int[][] due = {{0, 1, 4, 1, 1, 2, 3, 4}, {1, 0, 4, 2, 3, 4, 5, 5}, {0, 0, 5, 1, 2, 3, 4, 5}, {0, 4, 1, 1, 2, 3, 4, 1}, {4, 0, 1, 5, 2, 3, 4, 5}};
        for (int[] d : due) {
            StillInIt x = Bench.teams(2);
            Bench.row(x, 0, 1, 1, 2, 3, 4, 5);
            Bench.due("from " + d[0] + " to " + d[1], x.copy(0, d[0], 0, d[1], d[2]), d[2]);
            for (int i = 0; i < 5; i++) Bench.due("item " + i, Bench.item(x, 0, 1, i), d[3 + i]);
        }
    }

    private static void copyRefusals() {
        Bench.says(31, "BAD: no such SHEET; -11; -13: they are of unlike sorts; -12");
        StillInIt x = Bench.some();
        Bench.due("no such, other missing", x.copy(4, -1, 3, -1, -1), Bench.BAD);
        Bench.due("missing, no such other", x.copy(3, -1, 4, -1, -1), Bench.BAD);
        Bench.due("missing, outside", x.copy(3, -1, 0, -1, -1), Bench.MISSING);
        Bench.due("other missing, outside", x.copy(0, -1, 3, -1, -1), Bench.MISSING);
        Bench.due("both missing", x.copy(3, 0, 3, 0, 0), Bench.MISSING);
        Bench.due("unlike, outside", x.copy(0, -1, 1, 9, -1), Bench.UNLIKE);
        Bench.due("unlike, none", x.copy(1, 0, 0, 0, 0), Bench.UNLIKE);
        Bench.due("unlike, size 0", x.copy(0, 0, 2, 0, 0), Bench.UNLIKE);
        Bench.due("alike, outside", x.copy(1, 0, 2, 0, 1), Bench.OUTSIDE);
        Bench.due("alike, none", x.copy(1, 3, 2, 0, 0), 0);
    }

    private static void toldSizes() {
        Bench.says(24, "BAD: it tells more numbers than there are TEAMS");
        for (int teams = 0; teams <= 6; teams++) {
            for (int n = 0; n <= 8; n++) {
                StillInIt x = Bench.teams(teams);
                x.sheet(0, n % 2, n);
                Bench.due(n + " numbers, " + teams + " TEAMS: runs", x.tells(0, 0), n > teams ? Bench.BAD : 1);
                Bench.due(n + " numbers, " + teams + " TEAMS: first", x.tells(0, 1), n > teams ? Bench.BAD : (1 << n) - 1);
            }
        }
        StillInIt x = Bench.full();
        Bench.due("40 numbers", x.tells(0, 0), Bench.BAD);
        Bench.due("40 numbers", x.tells(0, 1), Bench.BAD);
        Bench.says(Bench.TERMS, "(6 numbers at most; others may have any)");
        StillInIt y = Bench.group("team a; team b; team c; team d; team e; team f; game a f 1; game e f 2");
        Bench.row(y, 0, 1, 0, 0, 0, 0, 0, 2);
        Bench.due("six", y.tells(0, 0), 1);
        Bench.row(y, 0, 1, 0, 0, 0, 0, 0, 1);
        Bench.due("six, one of them wrong", y.tells(0, 0), 0);
        Bench.row(y, 0, 1, 0, 0, 0, 0, 0);
        Bench.due("five: f has any", y.tells(0, 0), 1);
        Bench.row(y, 0, 0, 0, 0, 0, 0);
        Bench.due("four: e and f have any", y.tells(0, 0), 2);
        y.sheet(0, 0, 0);
        Bench.due("none: all have any", y.tells(0, 0), 4);
    }

    private static void toldRuns() {
        Bench.says(Bench.TERMS, "by how many RUNS it is so (DEAR: more than 6 GAMES are LEFT)");
        for (int left = 0; left <= 9; left++) {
            StillInIt x = Bench.teams(2);
            Bench.addGames(x, left, "a", "b");
            Bench.row(x, 0, 1, left);
            Bench.due(left + " LEFT, all won", x.tells(0, 0), left <= 6 ? 1 : Bench.DEAR);
            Bench.due("who is first is not dear", x.tells(0, 1), 1);
            for (int k = 6; k < left; k++) x.play(k, 1);
            Bench.due("6 of " + left + " LEFT", x.tells(0, 0), 1);
        }
        StillInIt x = Bench.teams(2);
        Bench.addGames(x, 6, "a", "b");
        int[] ways = {1, 6, 15, 20, 15, 6, 1};
        for (int won = -1; won <= 7; won++) {
            Bench.row(x, 0, 1, won);
            Bench.due(won + " won of 6", x.tells(0, 0), won < 0 || won > 6 ? 0 : ways[won]);
        }
        x.system(2);
        Bench.row(x, 0, 1, 18, 0);
        Bench.due("18 by THREES", x.tells(0, 0), 1);
        Bench.row(x, 0, 1, 17, 0);
        Bench.due("17 by THREES", x.tells(0, 0), 0);
        Bench.row(x, 0, 1, 6, 6);
        Bench.due("all drawn", x.tells(0, 0), 1);
        for (int v : new int[] {Bench.LEAST, Bench.MOST, 256 + 18}) {
            Bench.row(x, 0, 1, v);
            Bench.due(v + " by no RUN", x.tells(0, 0), 0);
        }
        Bench.row(x, 0, 0, 256 + 18);
        Bench.due("of bytes the lowest 8 bits", x.tells(0, 0), 1);
    }

    private static void toldFirst() {
        Bench.says(Bench.TERMS, "who is first, that was told so (TEAMS, bits, of the told ones whom nobody told is above)");
        int[][] rows = {{}, {5}, {-5}, {1, 1}, {2, 1}, {1, 2}, {0, 0, 0, 0, 0, 0}, {0, 0, 0, 0, 0, 1}, {1, 0, 1, 0, 1, 0},
            {Bench.LEAST}, {Bench.LEAST, Bench.LEAST}, {Bench.LEAST, Bench.MOST}, {Bench.MOST, Bench.LEAST, Bench.MOST}, {-2, -1, -2}};
        int[] due = {0, 1, 1, 3, 1, 2, 63, 32, 21, 1, 3, 2, 5, 2};
        for (int i = 0; i < rows.length; i++) {
            StillInIt x = Bench.teams(6);
            Bench.text(x, "start f 9");
            Bench.row(x, 0, 1, rows[i]);
            Bench.due("row " + i, x.tells(0, 1), due[i]);
        }
        StillInIt x = Bench.teams(6);
        Bench.row(x, 0, 0, 127, 128);
        Bench.due("bytes are 0 .. 255", x.tells(0, 1), 2);
        Bench.row(x, 0, 0, -1, 0, 255);
        Bench.due("bytes are 0 .. 255", x.tells(0, 1), 5);
    }

    private static void tellsRefusals() {
        Bench.says(24, "BAD: SHEET, what; -11; BAD: it tells more numbers than there are TEAMS; DEAR (of RUNS).");
        for (int what : new int[] {-1, 2, Bench.LEAST, Bench.MOST}) {
            Bench.due("what " + what, Bench.some().tells(0, what), Bench.BAD);
            Bench.due("what " + what + " ahead of -11", Bench.some().tells(3, what), Bench.BAD);
        }
        StillInIt x = Bench.full();
        Bench.due("missing, and DEAR", x.tells(3, 0), Bench.MISSING);
        Bench.due("missing", x.tells(3, 1), Bench.MISSING);
        Bench.due("too many, and DEAR", x.tells(0, 0), Bench.BAD);
        Bench.due("DEAR", x.tells(2, 0), Bench.DEAR);
        Bench.due("not of who is first", x.tells(2, 1), 0);
    }

    private static void films() {
        Bench.says(25, "POINTS of all TEAMS behind what is DRAWN by a SEED (ints): how many. BAD.");
        int[] seeds = {0, 1, -1, Bench.MOST, Bench.LEAST, Bench.MOST - 1, 1 << 30, 123456789};
        for (int system = 0; system <= 2; system++) {
            for (int seed : seeds) {
                int[] due = BoundariesOfRuns.pointsBySeed(fullBy(system), seed);
                StillInIt x = fullBy(system);
                Bench.due("film by " + seed, x.film(2, seed), 6);
                Bench.due("six", x.put(2, 6, 0), Bench.OUTSIDE);
                Bench.due("ints", x.load(2, 0, 0, 0), Bench.UNLIKE);
                for (int u = 0; u < 6; u++) {
                    StillInIt y = fullBy(system);
                    y.film(2, seed);
                    Bench.due("POINTS of " + u, Bench.item(y, 2, 1, u), due[u]);
                }
            }
        }
        for (int s = 0; s <= 3; s++) {
            StillInIt x = new StillInIt();
            Bench.due("no TEAMS", x.film(s, 7), 0);
            Bench.due("size 0, not missing", x.put(s, 0, 0), Bench.OUTSIDE);
            Bench.due("of ints", x.load(s, 1, 0, 0), 0);
        }
    }

    private static StillInIt fullBy(int system) {
        StillInIt x = Bench.full();
        x.system(system);
        return x;
    }

    private static void filmReplaces() {
        Bench.says(25, "A SHEET truly becomes POINTS of all TEAMS");
        StillInIt x = Bench.full();
        Bench.due("of 40 items", x.film(0, 5), 6);
        Bench.due("6 are there", x.put(0, 5, 0), 1);
        Bench.due("not more", x.put(0, 6, 0), Bench.OUTSIDE);
        x.film(0, 5);
        Bench.due("of bytes", x.film(1, 5), 6);
        Bench.due("ints now", x.copy(0, 0, 1, 0, 6), 6);
        Bench.due("of a missing one", x.film(3, 5), 6);
        Bench.due("nothing is PLAYED by it", x.count(2), 8);
        StillInIt y = Bench.group("team a; team b; start a 3; game a b 1; won b a");
        y.film(0, 5);
        Bench.due("as they are, when none is LEFT", y.tells(0, 0), 1);
        Bench.due("a is first", y.tells(0, 1), 1);
        Bench.text(y, "start b 9");
        Bench.due("the sheet stays as it was", y.tells(0, 1), 1);
    }

    private static void loadCounts() {
        Bench.says(32, "n of them (0 .. 9): how many came");
        for (int n = 0; n <= 9; n++) {
            StillInIt x = Bench.teams(2);
            x.sheet(0, 0, 27);
            for (int k = 0; k < 9; k++) {
                x.put(0, 3 * k, 1);
                x.put(0, 3 * k + 2, k + 1);
            }
            Bench.due("n " + n, x.load(0, 0, 0, n), n);
            Bench.due("GAMES", x.count(1), n);
            for (int k = 0; k < n; k++) Bench.due("DAY of " + k, x.game(k, 2), k + 1);
        }
        StillInIt x = Bench.teams(2);
        x.sheet(0, 0, 40);
        for (int n : new int[] {-1, 10, Bench.LEAST, Bench.MOST}) Bench.due("n " + n, x.load(0, 0, 0, n), Bench.BAD);
    }

    private static void loadLeavesOut() {
        Bench.says(32, "(what isn't as told, or has no room, is left out)");
        int[][] games = {{0, 1, 1}, {0, 1, 30}, {2, 0, 5}, {0, 1, 0}, {0, 1, 31}, {0, 0, 5}, {3, 0, 5}, {0, 3, 5}, {-1, 0, 5}, {0, -1, 5}, {0, 1, -1},
            {Bench.MOST, 0, 5}, {0, Bench.LEAST, 5}, {0, 1, Bench.MOST}, {0, 1, Bench.LEAST}, {256, 1, 5}, {0, 257, 5}, {0, 1, 257}, {5, 5, 5}};
        for (int i = 0; i < games.length; i++) {
            StillInIt x = Bench.teams(3);
            Bench.row(x, 0, 1, games[i]);
            Bench.due("ints of " + i, x.load(0, 1, 0, 1), i < 3 ? 1 : 0);
            Bench.due("GAMES", x.count(1), i < 3 ? 1 : 0);
        }
        StillInIt bytes = Bench.teams(3);
        Bench.row(bytes, 0, 0, 256, 257, 256 + 30, 255, 1, 5, 0, 255, 5, 0, 1, 255);
        Bench.due("bytes are their lowest 8 bits", bytes.load(0, 0, 0, 4), 1);
        Bench.due("the DAY", bytes.game(0, 2), 30);
        StillInIt none = new StillInIt();
        none.sheet(0, 0, 27);
        Bench.due("no TEAMS", none.load(0, 0, 0, 9), 0);
        StillInIt one = Bench.teams(1);
        one.sheet(0, 1, 27);
        Bench.due("one TEAM", one.load(0, 1, 0, 9), 0);
        // Those behind one that is left out come, numbered without it.
        StillInIt x = Bench.teams(3);
        Bench.row(x, 0, 1, 0, 1, 9, 1, 1, 9, 1, 2, 8);
        Bench.due("two of three", x.load(0, 1, 0, 3), 2);
        Bench.due("the second one's DAY", x.game(1, 2), 8);
    }

    private static void loadPlaces() {
        Bench.says(32, "-12: what stood ahead came.");
        // 40 items, all GAMES of TEAMS 1 and 2, however they are cut: 1 2 1 2 .. as ONE, OTHER, DAY.
        int[] froms = {-1, 0, 1, 12, 13, 14, 16, 36, 37, 38, 39, 40, 41, Bench.LEAST, Bench.MOST, Bench.MOST - 2};
        for (int from : froms) {
            for (int n = 0; n <= 9; n++) {
                StillInIt x = Bench.teams(3);
                x.sheet(0, 0, 40);
                for (int i = 0; i < 40; i++) x.put(0, i, 1 + i % 2);
                int inside = from < 0 ? 0 : (int) Math.max(0, Math.min(n, (40L - from) / 3));
                Bench.due("from " + from + ", n " + n, x.load(0, 0, from, n), inside == n ? n : Bench.OUTSIDE);
                Bench.due("what stood ahead", x.count(1), inside);
            }
        }
        for (int size = 0; size <= 3; size++) {
            StillInIt x = Bench.teams(3);
            x.sheet(0, 1, size);
            for (int i = 0; i < size; i++) x.put(0, i, 1 + i % 2);
            Bench.due("size " + size + ", none", x.load(0, 1, 0, 0), 0);
            Bench.due("size " + size + ", one", x.load(0, 1, 0, 1), size < 3 ? Bench.OUTSIDE : 1);
            Bench.due("GAMES", x.count(1), size < 3 ? 0 : 1);
        }
        // One that is left out stands ahead of the place outside, too.
        StillInIt y = Bench.teams(2);
        y.sheet(0, 1, 4);
        Bench.due("left out, then outside", y.load(0, 1, 0, 2), Bench.OUTSIDE);
        Bench.due("none came", y.count(1), 0);
    }

    private static void loadSorts() {
        Bench.says(32, "BAD: no such SHEET, sort, n; -13; -11; -12");
        for (int sort : new int[] {-2, -1, 2, Bench.LEAST, Bench.MOST}) {
            Bench.due("sort " + sort, Bench.some().load(0, sort, 0, 1), Bench.BAD);
            Bench.due("sort " + sort + " of a missing one", Bench.some().load(3, sort, 0, 1), Bench.BAD);
        }
        for (int n : new int[] {0, 1, 9}) {
            for (int from : new int[] {-1, 0, 40}) {
                StillInIt x = Bench.some();
                Bench.due("ints for bytes", x.load(0, 0, from, n), Bench.UNLIKE);
                Bench.due("bytes for ints", x.load(1, 1, from, n), Bench.UNLIKE);
                Bench.due("size 0, bytes for ints", x.load(2, 1, from, n), Bench.UNLIKE);
                Bench.due("missing for bytes", x.load(3, 0, from, n), Bench.MISSING);
                Bench.due("missing for ints", x.load(3, 1, from, n), Bench.MISSING);
            }
            Bench.due("n 10, ints for bytes", Bench.some().load(0, 0, n, 10), Bench.BAD);
            Bench.due("n -1, missing", Bench.some().load(3, 0, n, -1), Bench.BAD);
        }
    }

    private static void loadFull() {
        Bench.says(32, "or has no room, is left out");
        for (int there = 0; there <= 9; there++) {
            StillInIt x = Bench.teams(2);
            Bench.addGames(x, there, "a", "b");
            x.sheet(0, 1, 27);
            for (int k = 0; k < 9; k++) {
                x.put(0, 3 * k, 1);
                x.put(0, 3 * k + 2, 30);
            }
            Bench.due("room for " + (9 - there), x.load(0, 1, 0, 9), 9 - there);
            Bench.due("nine", x.count(1), 9);
            Bench.due("no room, then outside", x.load(0, 1, 3, 9), Bench.OUTSIDE);
            Bench.due("nine", x.count(1), 9);
            if (there > 0) Bench.due("those that were there stay", x.game(there - 1, 2), there);
        }
    }
}
