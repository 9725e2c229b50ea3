import java.util.function.Supplier;
import java.util.function.ToIntFunction;

/** Each refusal, in the order in which the call's words name it, with nothing changed by it; and calls that only answer. */
final class Refusals {
    private static final int BAD = Bench.BAD, STATE = Bench.STATE, FULL = Bench.FULL;
    private static final Supplier<StillInIt> NEW = StillInIt::new, SOME = Bench::some, ALL = Bench::full;

    private Refusals() {
    }

    static void tryAll() {
        ofFeed();
        ofText();
        ofNamed();
        ofGames();
        ofAnswers();
        ofWhoIsIn();
        ofSeeds();
        ofTells();
        ofImages();
        ofSheets();
        ofCopies();
        ofLoads();
        answersOnly();
        thoughtsOnly();
    }

    /** On an object of each size: new, some, full. */
    private static void everywhere(String label, ToIntFunction<StillInIt> call, int want) {
        Bench.only(label + ", new", NEW, call, want);
        Bench.only(label + ", some", SOME, call, want);
        Bench.only(label + ", full", ALL, call, want);
    }

    private static void ofFeed() {
        Bench.says(2, "BAD; FULL: they have no room.");
        everywhere("n 0", x -> x.feed(0, 1, 1, 1, 1, 1), BAD);
        everywhere("n 6", x -> x.feed(6, 1, 1, 1, 1, 1), BAD);
        everywhere("a below 0", x -> x.feed(1, -1, 1, 1, 1, 1), BAD);
        everywhere("e above 255", x -> x.feed(1, 1, 1, 1, 1, 256), BAD);
        everywhere("c far", x -> x.feed(5, 1, 1, Bench.MOST, 1, 1), BAD);
        Bench.only("1 behind 40", ALL, x -> x.feed(1, 97, 97, 97, 97, 97), FULL);
        Bench.only("5 behind 40", ALL, x -> x.feed(5, 97, 97, 97, 97, 97), FULL);
        Supplier<StillInIt> room4 = () -> {
            StillInIt x = Bench.some();
            Bench.feed(x, Bench.blanks(26));
            return x;
        };
        Bench.only("5 behind 36", room4, x -> x.feed(5, 97, 97, 97, 97, 97), FULL);
        Bench.due("4 behind 36", room4.get().feed(4, 97, 97, 97, 97, 97), 40);
    }

    private static void ofText() {
        Bench.says(3, "-100 less the place of its FAULT. FULL; STATE (both behind a FAULT; THE TAPE is empty by them, too).");
        String[] faults = {"", "x", "team", "team ab", "start ab 10", "game ab ab 1", "game ab cd 31", "won ab", "drew ab cd 1", "team zz!"};
        int[] places = {0, 0, 4, 5, 9, 8, 11, 6, 11, 7};
        for (int i = 0; i < faults.length; i++) Bench.onlyTape(faults[i], SOME, StillInIt::text, -100 - places[i]);
        String[] atFull = {"team b", "team g 1", "game b b 1", "game b c 0", "won b b"};
        int[] atFullPlaces = {5, 7, 7, 9, 6};
        for (int i = 0; i < atFull.length; i++) Bench.onlyTape(atFull[i], ALL, StillInIt::text, -100 - atFullPlaces[i]);
        Bench.onlyTape("team g", ALL, StillInIt::text, FULL);
        Bench.onlyTape("game b c 1", ALL, StillInIt::text, FULL);
        Bench.onlyTape("won ab efg", SOME, StillInIt::text, STATE);
        Bench.onlyTape("drew efg ab", SOME, StillInIt::text, STATE);
        Bench.onlyTape("won b e", ALL, StillInIt::text, STATE);
        Bench.onlyTape("team a team", NEW, StillInIt::text, -107);
    }

    private static void ofNamed() {
        Bench.says(4, "THE TAPE, which is empty then (by a FAULT, too)");
        Bench.onlyTape("ab", SOME, StillInIt::named, 0);
        Bench.onlyTape("efg", SOME, StillInIt::named, 2);
        Bench.onlyTape("zz", SOME, StillInIt::named, Bench.NONE);
        Bench.onlyTape("ab ", SOME, StillInIt::named, Bench.NONE);
        Bench.onlyTape("", SOME, StillInIt::named, Bench.NONE);
        Bench.onlyTape("a".repeat(40), ALL, StillInIt::named, Bench.NONE);
        Bench.onlyTape("abcdef", ALL, StillInIt::named, 0);
        Bench.onlyTape("a", NEW, StillInIt::named, Bench.NONE);
    }

    private static void ofGames() {
        Bench.says(5, "BAD.");
        everywhere("system -1", x -> x.system(-1), BAD);
        everywhere("system 3", x -> x.system(3), BAD);
        Bench.says(6, "BAD; STATE: it is PLAYED.");
        everywhere("no such GAME", x -> x.play(9, 1), BAD);
        everywhere("GAME -1", x -> x.play(-1, 1), BAD);
        Bench.only("GAME 0 of none", NEW, x -> x.play(0, 1), BAD);
        Bench.only("GAME 4 of four", SOME, x -> x.play(4, 1), BAD);
        Bench.only("RESULT 3 of one LEFT", SOME, x -> x.play(1, 3), BAD);
        Bench.only("RESULT -1 of one LEFT", SOME, x -> x.play(1, -1), BAD);
        Bench.only("RESULT 3 of one PLAYED", SOME, x -> x.play(0, 3), BAD);
        for (int r = 0; r <= 2; r++) {
            int result = r;
            Bench.only("PLAYED, RESULT " + r, SOME, x -> x.play(0, result), STATE);
            Bench.only("PLAYED, RESULT " + r, ALL, x -> x.play(0, result), STATE);
        }
        Bench.says(7, "BAD; STATE: it is LEFT.");
        everywhere("no such GAME", x -> x.unplay(9), BAD);
        everywhere("GAME -1", x -> x.unplay(-1), BAD);
        Bench.only("GAME 4 of four", SOME, x -> x.unplay(4), BAD);
        Bench.only("LEFT", SOME, x -> x.unplay(1), STATE);
        Bench.only("the ninth is LEFT", ALL, x -> x.unplay(8), STATE);
    }

    private static void ofAnswers() {
        Bench.says(8, "BAD.");
        everywhere("no such TEAM", x -> x.told(6, 0), BAD);
        everywhere("what 5", x -> x.told(0, 5), BAD);
        everywhere("what 9", x -> x.told(0, 9), BAD);
        everywhere("what 16", x -> x.told(0, 16), BAD);
        Bench.says(9, "BAD.");
        everywhere("no such GAME", x -> x.game(9, 0), BAD);
        everywhere("what 4", x -> x.game(0, 4), BAD);
        Bench.says(10, "BAD.");
        everywhere("no such TEAM", x -> x.between(6, 0), BAD);
        everywhere("no such other one", x -> x.between(0, 6), BAD);
        everywhere("the same", x -> x.between(0, 0), BAD);
        Bench.says(11, "BAD; -13.");
        everywhere("KIND 3", x -> x.taken(3), BAD);
        everywhere("KIND -1", x -> x.taken(-1), BAD);
        Bench.only("WINS for SHARES", NEW, x -> x.taken(1), Bench.UNLIKE);
        Bench.only("SHARES for THREES", SOME, x -> x.taken(2), Bench.UNLIKE);
        Bench.says(28, "BAD.");
        everywhere("what -1", x -> x.count(-1), BAD);
        everywhere("what 5", x -> x.count(5), BAD);
    }

    private static void ofWhoIsIn() {
        Bench.says(12, "BAD.");
        everywhere("no such TEAM", x -> x.isIn(6), BAD);
        Bench.says(14, "BAD.");
        everywhere("no such TEAM", x -> x.set(6, 0), BAD);
        everywhere("what 2", x -> x.set(0, 2), BAD);
        Bench.says(15, "BAD; STATE: the GAME is PLAYED; behind that NONE: the TEAM is OUT.");
        everywhere("no such TEAM", x -> x.run(6, 0), BAD);
        everywhere("no such GAME", x -> x.run(0, 9), BAD);
        Bench.only("PLAYED", SOME, x -> x.run(1, 0), STATE);
        Bench.only("OUT", ALL, x -> x.run(5, 1), Bench.NONE);
        Bench.only("PLAYED, and OUT", ALL, x -> x.run(5, 0), STATE);
        Bench.says(16, "BAD.");
        everywhere("no such TEAM", x -> x.pattern(-1), BAD);
        Bench.says(17, "BAD.");
        everywhere("no such TEAM", x -> x.needs(6, 0), BAD);
        everywhere("what 2", x -> x.needs(0, 2), BAD);
        Bench.says(18, "BAD.");
        everywhere("no such TEAM", x -> x.since(6, 0), BAD);
        everywhere("what 2", x -> x.since(0, 2), BAD);
        Bench.says(19, "BAD; STATE: it is PLAYED.");
        everywhere("no such TEAM", x -> x.help(6, 1), BAD);
        everywhere("no such GAME", x -> x.help(0, 9), BAD);
        Bench.only("no such TEAM, PLAYED", SOME, x -> x.help(3, 0), BAD);
        Bench.only("PLAYED", SOME, x -> x.help(1, 0), STATE);
        Bench.says(20, "BAD.");
        everywhere("no such GAME", x -> x.without(9), BAD);
        everywhere("GAME -1", x -> x.without(-1), BAD);
        Bench.says(21, "DEAR.");
        Bench.only("8 LEFT", ALL, StillInIt::tables, Bench.DEAR);
    }

    private static void ofSeeds() {
        Bench.says(23, "BAD.");
        everywhere("no such TEAM", x -> x.chance(6, 1, 1, 0), BAD);
        everywhere("m 0", x -> x.chance(0, 1, 0, 0), BAD);
        everywhere("m 21", x -> x.chance(0, 1, 21, 0), BAD);
        everywhere("part 2", x -> x.chance(0, 1, 1, 2), BAD);
        Bench.says(25, "BAD.");
        everywhere("SHEET 4", x -> x.film(4, 1), BAD);
        everywhere("SHEET -1", x -> x.film(-1, 1), BAD);
    }

    private static void ofTells() {
        Bench.says(24, "BAD: SHEET, what; -11; BAD: it tells more numbers than there are TEAMS; DEAR (of RUNS).");
        everywhere("SHEET 4", x -> x.tells(4, 0), BAD);
        everywhere("SHEET -1", x -> x.tells(-1, 1), BAD);
        everywhere("what 2 of a missing one", x -> x.tells(3, 2), BAD);
        everywhere("missing", x -> x.tells(3, 0), Bench.MISSING);
        everywhere("missing", x -> x.tells(3, 1), Bench.MISSING);
        Bench.only("40 of 6, and DEAR", ALL, x -> x.tells(0, 0), BAD);
        Bench.only("40 of 6", ALL, x -> x.tells(1, 1), BAD);
        Bench.only("DEAR", ALL, x -> x.tells(2, 0), Bench.DEAR);
    }

    private static void ofImages() {
        Bench.says(27, "STATE: there is none.");
        Bench.only("new", NEW, StillInIt::back, STATE);
        Supplier<StillInIt> without = () -> Bench.group(1, "team a; team b; game a b 1; won a b");
        Bench.only("a group", without, StillInIt::back, STATE);
    }

    private static void ofSheets() {
        Bench.says(29, "BAD: no such SHEET, sort; n above 40; -14.");
        everywhere("SHEET 4", x -> x.sheet(4, 0, 1), BAD);
        everywhere("SHEET -1 to be missing", x -> x.sheet(-1, -1, 0), BAD);
        for (int s = 0; s <= 3; s++) {
            int sheet = s;
            everywhere("sort 2", x -> x.sheet(sheet, 2, 1), BAD);
            everywhere("sort -2, n -1", x -> x.sheet(sheet, -2, -1), BAD);
            everywhere("n 41", x -> x.sheet(sheet, 0, 41), BAD);
            everywhere("n -1", x -> x.sheet(sheet, 1, -1), Bench.NEGATIVE);
        }
        Bench.says(30, "BAD: no such SHEET; -11; -12.");
        everywhere("SHEET 4, outside", x -> x.put(4, -1, 1), BAD);
        everywhere("missing, outside", x -> x.put(3, -1, 1), Bench.MISSING);
        Bench.only("size 0", SOME, x -> x.put(2, 0, 1), Bench.OUTSIDE);
        Bench.only("item 3 of three", SOME, x -> x.put(0, 3, 1), Bench.OUTSIDE);
        Bench.only("item -1", SOME, x -> x.put(1, -1, 1), Bench.OUTSIDE);
        Bench.only("item 40 of 40", ALL, x -> x.put(0, 40, 1), Bench.OUTSIDE);
        Bench.only("item 40 of 40", ALL, x -> x.put(1, 40, 1), Bench.OUTSIDE);
    }

    private static void ofCopies() {
        Bench.says(31, "BAD: no such SHEET; -11; -13: they are of unlike sorts; -12 (also with n below 0).");
        everywhere("SHEET 4, to a missing one", x -> x.copy(4, 0, 3, 0, 0), BAD);
        everywhere("a missing one to SHEET -1", x -> x.copy(3, 0, -1, 0, 0), BAD);
        everywhere("missing, outside", x -> x.copy(3, -1, 0, -1, -1), Bench.MISSING);
        everywhere("to a missing one, outside", x -> x.copy(0, -1, 3, -1, -1), Bench.MISSING);
        Bench.only("unlike", SOME, x -> x.copy(0, 0, 1, 0, 3), Bench.UNLIKE);
        Bench.only("unlike, outside", ALL, x -> x.copy(1, -1, 0, 41, -1), Bench.UNLIKE);
        Bench.only("n 41", ALL, x -> x.copy(0, 0, 0, 0, 41), Bench.OUTSIDE);
        Bench.only("40 to 1", ALL, x -> x.copy(0, 0, 0, 1, 40), Bench.OUTSIDE);
        Bench.only("39 to 2", ALL, x -> x.copy(1, 0, 1, 2, 39), Bench.OUTSIDE);
        Bench.only("n -1", ALL, x -> x.copy(0, 3, 0, 7, -1), Bench.OUTSIDE);
        Bench.only("n far below", ALL, x -> x.copy(0, 3, 0, 7, Bench.LEAST), Bench.OUTSIDE);
        Bench.only("n far above", ALL, x -> x.copy(0, 3, 0, 7, Bench.MOST), Bench.OUTSIDE);
    }

    private static void ofLoads() {
        Bench.says(32, "BAD: no such SHEET, sort, n; -13; -11; -12: what stood ahead came.");
        everywhere("SHEET 4", x -> x.load(4, 0, 0, 0), BAD);
        everywhere("sort 2 of a missing one", x -> x.load(3, 2, 0, 0), BAD);
        everywhere("n 10 of a missing one", x -> x.load(3, 0, 0, 10), BAD);
        everywhere("n -1 of a missing one", x -> x.load(3, 0, 0, -1), BAD);
        everywhere("missing", x -> x.load(3, 1, -1, 9), Bench.MISSING);
        Bench.only("ints for bytes, outside", SOME, x -> x.load(0, 0, -1, 9), Bench.UNLIKE);
        Bench.only("bytes for ints, outside", ALL, x -> x.load(1, 1, -1, 9), Bench.UNLIKE);
        Bench.only("outside at first", SOME, x -> x.load(0, 1, 1, 1), Bench.OUTSIDE);
        Bench.only("size 0", SOME, x -> x.load(2, 0, 0, 1), Bench.OUTSIDE);
        Bench.only("no room, then outside", ALL, x -> x.load(1, 0, 14, 9), Bench.OUTSIDE);
        Bench.only("not as told", SOME, x -> x.load(1, 0, 0, 1), 0);
        Bench.only("none", ALL, x -> x.load(0, 1, 0, 0), 0);
    }

    private static void answersOnly() {
        Bench.says(8, "Of a TEAM: START (what 0), POINTS (1), REACH (2), GAMES LEFT (3; bits)");
        Bench.only("REACH", SOME, x -> x.told(0, 2), 9);
        Bench.only("letter", ALL, x -> x.told(0, 15), 'f');
        Bench.says(11, "what WON brings");
        Bench.only("WON", SOME, x -> x.taken(0), 2);
        Bench.says(22, "DRAWN: TEAMS (bits) above whom nobody is.");
        Bench.only("by the most", ALL, x -> x.drawn(Bench.MOST), 1);
        Bench.says(23, "in lowest terms");
        Bench.only("of 20", ALL, x -> x.chance(0, Bench.MOST, 20, 0), 19);
        Bench.says(24, "who is first (1; bits)");
        Bench.only("bytes", SOME, x -> x.tells(1, 1), 4);
        Bench.only("by RUNS", SOME, x -> x.tells(2, 0), 9);
        Bench.says(28, "3 bytes of THE TAPE");
        Bench.only("bytes", ALL, x -> x.count(3), 40);
    }

    /** What is thought of (without a GAME, with a RESULT, as of a DAY) leaves all as it is. */
    private static void thoughtsOnly() {
        Bench.says(12, "Whether a TEAM is IN (1, 0).");
        Bench.only("IN", SOME, x -> x.isIn(0), 1);
        Bench.says(13, "TEAMS (bits) that are IN.");
        Bench.only("all", SOME, StillInIt::all, 1);
        Bench.says(14, "SET of a TEAM (what 0; bits), ABOVE of it (1).");
        Bench.only("SET", SOME, x -> x.set(2, 0), 1);
        Bench.only("ABOVE", SOME, x -> x.set(2, 1), 4);
        Bench.says(15, "RESULT of a GAME LEFT in FIRST RUN for a TEAM.");
        Bench.only("run", SOME, x -> x.run(0, 3), 1);
        Bench.says(16, "PATTERN of a TEAM (bits; NONE).");
        Bench.only("PATTERN", SOME, x -> x.pattern(0), 0);
        Bench.says(17, "NEEDS of a TEAM: how many (what 0; NONE)");
        Bench.only("NEEDS", SOME, x -> x.needs(0, 0), 0);
        Bench.says(18, "OUT SINCE (what 0), SURE SINCE (1)");
        Bench.only("OUT SINCE", SOME, x -> x.since(2, 0), 0);
        Bench.only("SURE SINCE", SOME, x -> x.since(0, 1), 3);
        Bench.says(19, "HELP for a TEAM of a GAME.");
        Bench.only("HELP", SOME, x -> x.help(0, 1), 7);
        Bench.says(20, "WITHOUT a GAME: TEAMS (bits) that are IN.");
        Bench.only("WITHOUT", SOME, x -> x.without(0), 3);
        Bench.says(21, "TABLES.");
        Bench.only("TABLES", SOME, StillInIt::tables, 9);
    }
}
