/** For each promise: ordinary inputs, the edges that the document names, and wrong inputs, worked out by hand. */
public final class PromisesTest {
    private static int wrong = 0;
    private static int promise = 0;

    private static void due(String call, int got, int want) {
        if (got == want) return;
        wrong++;
        System.out.println("promise " + promise + ": " + call + " answered " + got + ", due is " + want);
    }

    /** Feeds a text, five bytes at once. */
    private static void feed(StillInIt x, String text) {
        for (int i = 0; i < text.length(); i += 5) {
            int n = Math.min(5, text.length() - i);
            int[] b = new int[5];
            for (int j = 0; j < n; j++) b[j] = text.charAt(i + j);
            x.feed(n, b[0], b[1], b[2], b[3], b[4]);
        }
    }

    private static int text(StillInIt x, String text) {
        feed(x, text);
        return x.text();
    }

    private static int named(StillInIt x, String text) {
        feed(x, text);
        return x.named();
    }

    /** A group of texts, by ';'. */
    private static StillInIt group(String texts) {
        StillInIt x = new StillInIt();
        for (String t : texts.split(";")) text(x, t.trim());
        return x;
    }

    private static int sheetOf(StillInIt x, int sheet, int sort, int... items) {
        int answer = x.sheet(sheet, sort, items.length);
        for (int i = 0; i < items.length; i++) x.put(sheet, i, items[i]);
        return answer;
    }

    /** What a sheet's item is, asked without changing it: a copy is told beside a known number. */
    private static int firstOfPair(StillInIt x, int sheet, int i, int sort, int beside) {
        x.sheet(3, sort, 2);
        x.put(3, 1, beside);
        x.copy(sheet, i, 3, 0, 1);
        return x.tells(3, 1);
    }

    private static void promise1() {
        promise = 1;
        StillInIt x = new StillInIt();
        for (int what = 0; what <= 4; what++) due("count(" + what + ")", x.count(what), 0);
        due("all()", x.all(), 0);
        due("back()", x.back(), -3);
        due("tables()", x.tables(), 1);
        for (int s = 0; s < 4; s++) due("put(" + s + ", 0, 0)", x.put(s, 0, 0), -11);
        due("NONE", StillInIt.NONE, -1);
        due("BAD", StillInIt.BAD, -2);
        due("STATE", StillInIt.STATE, -3);
        due("FULL", StillInIt.FULL, -4);
        due("DEAR", StillInIt.DEAR, -6);
    }

    private static void promise2() {
        promise = 2;
        StillInIt x = new StillInIt();
        due("n 0", x.feed(0, 1, 1, 1, 1, 1), -2);
        due("n 6", x.feed(6, 1, 1, 1, 1, 1), -2);
        due("n -1", x.feed(-1, 1, 1, 1, 1, 1), -2);
        int[] b = new int[5];
        for (int i = 0; i < 5; i++) {
            b[i] = 256;
            due("byte 256 at " + i, x.feed(1, b[0], b[1], b[2], b[3], b[4]), -2);
            b[i] = -1;
            due("byte -1 at " + i, x.feed(1, b[0], b[1], b[2], b[3], b[4]), -2);
            b[i] = 0;
        }
        due("nothing came", x.count(3), 0);
        due("5", x.feed(5, 255, 0, 255, 0, 255), 5);
        due("1", x.feed(1, 0, 0, 0, 0, 0), 6);
        for (int i = 0; i < 6; i++) x.feed(5, 97, 97, 97, 97, 97);
        due("4 to 40", x.feed(4, 97, 97, 97, 97, 255), 40);
        due("full", x.feed(1, 97, 0, 0, 0, 0), -4);
        due("BAD ahead of FULL", x.feed(1, 97, 0, 0, 0, 256), -2);
        due("40 stay", x.count(3), 40);
        x.named();
        for (int i = 0; i < 7; i++) x.feed(5, 97, 97, 97, 97, 97);
        x.feed(1, 97, 0, 0, 0, 0);
        due("5 behind 36", x.feed(5, 97, 97, 97, 97, 97), -4);
        due("36 stay", x.count(3), 36);
        due("4 behind 36", x.feed(4, 97, 97, 97, 97, 97), 40);
        StillInIt y = new StillInIt();
        due("order", y.feed(5, 't', 'e', 'a', 'm', ' '), 5);
        due("order", y.feed(3, 'x', 'y', 'z', 'q', 'q'), 8);
        y.text();
        due("as they came", named(y, "xyz"), 0);
    }

    private static void promise3Faults() {
        promise = 3;
        StillInIt x = group("team ab; team cd");
        String[] texts = {"", "   ", "\n", "a", "teams ab", "team", "team ", "team  \n", "team abcdefg", "team team",
            "team start", "team game", "team won", "team drew", "team ab", "team 5", "team e f", "team e 5", "team e!",
            "team E", "team\te", "start", "start ab", "start ab ", "start xx 4", "start ab 10", "start ab 004",
            "start ab x", "start 4 ab", "start ab 4 4", "start ab 4 x", "start ab 4!", "game ab", "game ab ab 3",
            "game ab xx 3", "game xx ab 3", "game ab cd", "game ab cd 0", "game ab cd 00", "game ab cd 31",
            "game ab cd 001", "game ab cd 3 3", "game ab cd x", "won ab", "won ab ab", "won xx ab", "won ab xx",
            "won ab cd ef", "drew", "drew ab 3", "drew ab cd 3", "5", "!", "team \r", "start ab -1", "start AB 4",
            "start abcdefgh 4", "start start 4", "game ab game 3", "abteam",
            "beam e", "smart ab 4", "same ab cd 3", "son ab cd", "crew ab cd", "teem e", "tea e", "gamer ab cd 3"};
        int[] places = {0, 3, 1, 0, 0, 4, 5, 7, 5, 5, 5, 5, 5, 5, 5, 5, 7, 7, 6, 5, 4, 5, 8, 9, 6, 9, 9, 9, 6, 11, 11, 10,
            7, 8, 8, 5, 10, 11, 11, 11, 11, 13, 11, 6, 7, 4, 7, 10, 4, 8, 11, 0, 0, 5, 9, 6, 6, 6, 8, 0,
            0, 0, 0, 0, 0, 0, 0, 0};
        for (int i = 0; i < texts.length; i++) {
            due("fault of '" + texts[i] + "'", text(x, texts[i]), -100 - places[i]);
            due("empty behind '" + texts[i] + "'", x.count(3), 0);
        }
        due("no team came", x.count(0), 2);
        due("no game came", x.count(1), 0);
        due("no start came", x.told(0, 0), 0);
        feed(x, "team ");
        x.feed(2, 128, 97, 0, 0, 0);
        due("a byte above 127", x.text(), -105);
        StringBuilder long40 = new StringBuilder("team ");
        while (long40.length() < 39) long40.append(' ');
        due("40 bytes", text(x, long40 + "q"), 2);
    }

    private static void promise3Done() {
        promise = 3;
        StillInIt x = new StillInIt();
        due("team", text(x, "team a"), 0);
        due("blanks around", text(x, " \n team \n bcdefg \n"), 1);
        due("like a keyword", text(x, "team teams"), 2);
        due("number stuck to a name", text(x, "start a7"), 0);
        due("start 7", x.told(0, 0), 7);
        due("0 ahead", text(x, "start a 09"), 0);
        due("start 9", x.told(0, 0), 9);
        due("start 0", text(x, "start a 0"), 0);
        due("start 0", x.told(0, 0), 0);
        due("other team", text(x, "start teams 5"), 2);
        due("game", text(x, "game a bcdefg 30"), 0);
        due("game 01", text(x, "game bcdefg a 01"), 1);
        due("day 1", x.game(1, 2), 1);
        due("one", x.game(1, 0), 1);
        due("other", x.game(1, 1), 0);
        due("game stuck", text(x, "game a bcdefg30"), 2);
        due("won: the least day", text(x, "won a bcdefg"), 1);
        due("the other won", x.game(1, 3), 2);
        due("drew: the least number", text(x, "drew bcdefg a"), 0);
        due("drawn", x.game(0, 3), 0);
        due("won: the last", text(x, "won a bcdefg"), 2);
        due("the one won", x.game(2, 3), 1);
        due("none is left", text(x, "won a bcdefg"), -3);
        due("none is left", text(x, "drew bcdefg a"), -3);
        due("empty by STATE", x.count(3), 0);
        due("no such game", text(x, "won a teams"), -3);
        due("a fault is ahead of STATE", text(x, "won a teams x"), -112);
        StillInIt w = new StillInIt();
        String[] near = {"beam", "ttart", "fame", "son", "crew", "wo"};
        for (int i = 0; i < 6; i++) due("near a keyword", text(w, "team " + near[i]), i);
        StillInIt y = group("team a; team b; team c; team d; team e");
        due("the sixth", text(y, "team f"), 5);
        due("full", text(y, "team g"), -4);
        due("empty by FULL", y.count(3), 0);
        due("fault ahead of FULL", text(y, "team a"), -105);
        due("fault ahead of FULL", text(y, "team g g"), -107);
        for (int i = 0; i < 9; i++) due("game", text(y, "game a b 3"), i);
        due("full", text(y, "game a b 3"), -4);
        due("fault ahead of FULL", text(y, "game a b 31"), -109);
        due("9 games", y.count(1), 9);
        due("6 teams", y.count(0), 6);
    }

    private static void promise4() {
        promise = 4;
        StillInIt x = group("team ab; team abc; team bca");
        due("ab", named(x, "ab"), 0);
        due("abc", named(x, "abc"), 1);
        due("bca", named(x, "bca"), 2);
        due("empty then", x.count(3), 0);
        due("empty", x.named(), -1);
        due("blank ahead", named(x, " ab"), -1);
        due("blank behind", named(x, "ab "), -1);
        due("a part", named(x, "a"), -1);
        due("more", named(x, "abcd"), -1);
        due("another", named(x, "abd"), -1);
        due("keyword", named(x, "team"), -1);
        due("empty then", x.count(3), 0);
    }

    private static void promise5() {
        promise = 5;
        StillInIt x = group("team a; team b; game a b 1; won a b; start b 1");
        due("3", x.system(3), -2);
        due("-1", x.system(-1), -2);
        due("was 0", x.system(2), 0);
        due("won 3", x.told(0, 1), 3);
        due("was 2", x.system(1), 2);
        due("won 2", x.told(0, 1), 2);
        due("bad changes nothing", x.system(9), -2);
        due("was 1", x.system(0), 1);
        due("won 1", x.told(0, 1), 1);
        x.unplay(0);
        x.play(0, 0);
        due("drawn 0", x.told(1, 1), 1);
        x.system(1);
        due("drawn 1", x.told(1, 1), 2);
        due("drawn 1", x.told(0, 1), 1);
        x.system(2);
        due("drawn 1", x.told(1, 1), 2);
    }

    private static void promise6() {
        promise = 6;
        StillInIt x = group("team a; team b; game a b 1; game b a 1; game a b 1");
        due("no game", x.play(3, 1), -2);
        due("no game", x.play(-1, 1), -2);
        due("no game", x.play(9, 1), -2);
        due("no result", x.play(0, 3), -2);
        due("no result", x.play(0, -1), -2);
        due("left", x.game(0, 3), -1);
        due("1", x.play(0, 1), 1);
        due("2", x.play(1, 2), 1);
        due("0, by wins too", x.play(2, 0), 1);
        due("played", x.play(0, 2), -3);
        due("BAD ahead of STATE", x.play(0, 3), -2);
        due("result stays", x.game(0, 3), 1);
        due("result", x.game(1, 3), 2);
        due("result", x.game(2, 3), 0);
        due("points", x.told(0, 1), 2);
        due("points", x.told(1, 1), 0);
    }

    private static void promise7() {
        promise = 7;
        StillInIt x = group("team a; team b; game a b 1; game b a 2; game a b 3");
        due("no game", x.unplay(3), -2);
        due("no game", x.unplay(-1), -2);
        due("left", x.unplay(0), -3);
        for (int r = 0; r <= 2; r++) x.play(r, r);
        for (int r = 0; r <= 2; r++) {
            due("result", x.unplay(r), r);
            due("left again", x.unplay(r), -3);
            due("left again", x.game(r, 3), -1);
        }
        due("points are gone", x.told(0, 1), 0);
        due("all left", x.count(2), 3);
        due("play again", x.play(1, 1), 1);
    }

    private static void promise8() {
        promise = 8;
        StillInIt x = group("team abcdef; team g; team h; start abcdef 4; game abcdef g 1; game h abcdef 2; game g h 3");
        x.system(2);
        x.play(0, 1);
        due("start", x.told(0, 0), 4);
        due("points", x.told(0, 1), 7);
        due("reach", x.told(0, 2), 10);
        due("left", x.told(0, 3), 2);
        due("size", x.told(0, 4), 6);
        for (int i = 0; i < 6; i++) due("letter " + i, x.told(0, 10 + i), 'a' + i);
        due("reach of who lost", x.told(1, 2), 3);
        due("left", x.told(1, 3), 4);
        due("left", x.told(2, 3), 6);
        due("reach", x.told(2, 2), 6);
        due("size 1", x.told(1, 4), 1);
        due("letter", x.told(1, 10), 'g');
        due("no letter", x.told(1, 11), -1);
        due("no letter", x.told(1, 15), -1);
        int[] bad = {-1, 5, 6, 9, 16, Integer.MAX_VALUE, Integer.MIN_VALUE};
        for (int what : bad) due("what " + what, x.told(0, what), -2);
        due("no team", x.told(3, 0), -2);
        due("no team", x.told(-1, 10), -2);
        due("no team", x.told(6, 15), -2);
    }

    private static void promise9() {
        promise = 9;
        StillInIt x = group("team a; team b; team c; game c a 17; game b c 2");
        due("one", x.game(0, 0), 2);
        due("other", x.game(0, 1), 0);
        due("day", x.game(0, 2), 17);
        due("left", x.game(0, 3), -1);
        x.play(0, 2);
        due("result", x.game(0, 3), 2);
        due("one", x.game(1, 0), 1);
        due("what 4", x.game(0, 4), -2);
        due("what -1", x.game(0, -1), -2);
        due("no game", x.game(2, 0), -2);
        due("no game", x.game(-1, 0), -2);
    }

    private static void promise10() {
        promise = 10;
        StillInIt x = group("team a; team b; team c; game a b 1; game b c 1; game b a 1; game a c 1; won a b");
        due("a b", x.between(0, 1), 5);
        due("b a", x.between(1, 0), 5);
        due("c b", x.between(2, 1), 2);
        due("a c", x.between(0, 2), 8);
        due("alike", x.between(1, 1), -2);
        due("none", x.between(0, 3), -2);
        due("none", x.between(3, 0), -2);
        due("none", x.between(-1, 0), -2);
        due("none", x.between(0, -1), -2);
        due("no game", group("team a; team b").between(0, 1), 0);
        x.image();
        for (int i = 0; i < 5; i++) text(x, "game a b 1");
        due("nine games", x.between(0, 1), 5 + 16 + 32 + 64 + 128 + 256);
        x.back();
        due("those are gone", x.between(0, 1), 5);
    }

    private static void promise11() {
        promise = 11;
        StillInIt x = new StillInIt();
        int[][] want = {{1, -13, -13}, {2, 2, -13}, {3, 3, 3}};
        for (int s = 0; s < 3; s++) {
            x.system(s);
            for (int k = 0; k < 3; k++) due(s + " taken for " + k, x.taken(k), want[s][k]);
            due("-1", x.taken(-1), -2);
            due("3", x.taken(3), -2);
        }
    }

    /** By THREES c and d each have room for 2: one game between them must be drawn, two are none too many. */
    private static StillInIt narrow(int between) {
        StringBuilder s = new StringBuilder("team a; team c; team d; start a 2");
        for (int i = 0; i < between; i++) s.append("; game c d ").append(i + 1);
        StillInIt x = group(s.toString());
        x.system(2);
        return x;
    }

    private static void promise12() {
        promise = 12;
        StillInIt x = group("team a; team b; start a 2; game a b 1; game b a 2");
        due("in", x.isIn(0), 1);
        due("in by all", x.isIn(1), 1);
        x.play(0, 1);
        due("out", x.isIn(1), 0);
        due("none", x.isIn(2), -2);
        due("none", x.isIn(-1), -2);
        due("one team", group("team a").isIn(0), 1);
        due("two draws", narrow(2).isIn(0), 1);
        due("three are too many", narrow(3).isIn(0), 0);
        // By THREES a gap: rooms 1, 1 and 4 take 3 + 3 + 3 points in no way, though 2 a game would do.
        StillInIt y = group("team a; team b; team c; team d; start a 4; start b 3; start c 3; game b d 1; game c d 1; game b c 1");
        y.system(2);
        due("out", y.isIn(0), 0);
        due("but not shut out", y.set(0, 1), 0);
        y.system(1);
        due("by shares in", y.isIn(0), 1);
        y.system(0);
        due("by wins in", y.isIn(0), 1);
    }

    private static void promise13() {
        promise = 13;
        StillInIt x = group("team a; team b; team c; start b 3; game a b 1; game a c 2; game a c 3");
        due("a and b", x.all(), 3);
        text(x, "start b 2");
        due("a, b and c, level", x.all(), 7);
        x.system(1);
        due("a, b and c", x.all(), 7);
        x.play(0, 2);
        due("a, b and c, level", x.all(), 7);
        x.play(1, 0);
        due("b", x.all(), 2);
        due("none", new StillInIt().all(), 0);
    }

    private static void promise14() {
        promise = 14;
        StillInIt x = group("team a; team b; team c; team d; start b 2; start c 2; start a 2; game b c 1; game b c 2; game a d 3");
        due("set", x.set(0, 0), 0);
        due("above", x.set(0, 1), 0);
        x.play(2, 2);
        due("set", x.set(0, 0), 6);
        due("above", x.set(0, 1), 2);
        x.system(1);
        due("above by shares", x.set(0, 1), 4);
        due("set without the level one", x.set(0, 0), 6);
        x.system(2);
        due("above by threes", x.set(0, 1), 5);
        due("set with the one above", x.set(0, 0), 14);
        x.system(0);
        due("set of d", x.set(3, 0), 7);
        due("above of d", x.set(3, 1), 5);
        due("what 2", x.set(0, 2), -2);
        due("what -1", x.set(0, -1), -2);
        due("none", x.set(4, 0), -2);
        due("none", x.set(-1, 0), -2);
        // Those who are just level come in with nothing: the fewest are told.
        StillInIt y = group("team a; team b; team c; start b 1");
        due("fewest", y.set(0, 0), 2);
        due("fewest", y.set(2, 0), 2);
        due("above", y.set(2, 1), 1);
    }

    private static void promise15() {
        promise = 15;
        StillInIt x = group("team a; team b; team c; start c 1; start a 1; game b c 1; game b c 2; game c a 3; game a b 4");
        due("own as the other", x.run(0, 2), 2);
        due("own as the one", x.run(0, 3), 1);
        due("first 1", x.run(0, 0), 1);
        due("first 1", x.run(0, 1), 1);
        text(x, "start b 2");
        due("then 2", x.run(0, 0), 1);
        due("then 2", x.run(0, 1), 2);
        text(x, "start b 3");
        due("2 ahead", x.run(0, 0), 2);
        due("2 ahead", x.run(0, 1), 2);
        x.play(1, 1);
        due("played", x.run(0, 1), -3);
        due("out", x.run(0, 0), -1);
        due("BAD ahead", x.run(3, 1), -2);
        due("BAD ahead", x.run(-1, 1), -2);
        due("no game", x.run(0, 4), -2);
        due("no game", x.run(0, -1), -2);
        StillInIt y = narrow(2);
        due("drawn behind all", y.run(0, 0), 0);
        due("drawn behind all", y.run(0, 1), 0);
        y.system(1);
        due("by shares 1", y.run(0, 0), 1);
        due("by shares 2", y.run(0, 1), 2);
    }

    private static void promise16() {
        promise = 16;
        due("both drawn", narrow(2).pattern(0), 3);
        due("out", narrow(3).pattern(0), -1);
        StillInIt x = narrow(2);
        x.system(1);
        due("none drawn", x.pattern(0), 0);
        text(x, "start a 1");
        due("out", x.pattern(0), -1);
        x.play(1, 0);
        due("out, one drawn", x.pattern(0), -1);
        text(x, "start a 2");
        due("the one left", x.pattern(0), 1);
        x.unplay(1);
        x.play(0, 0);
        due("the other one left", x.pattern(0), 2);
        text(x, "start a 3");
        due("none", x.pattern(0), 0);
        due("none such", x.pattern(3), -2);
        due("none such", x.pattern(-1), -2);
        // c and d have room for 4 each, and 3 games: one of them is drawn, the least.
        StillInIt y = narrow(3);
        text(y, "start a 4");
        due("one of three", y.pattern(0), 1);
        due("own ones are none", group("team a; team b; game a b 1").pattern(0), 0);
    }

    private static void promise17() {
        promise = 17;
        StillInIt x = group("team a; team b; team c; start b 2; game a b 1; game c a 2; game a c 3; game b c 4");
        due("all but one", x.needs(0, 0), 2);
        due("which", x.needs(0, 1), 3);
        text(x, "start b 3");
        due("all", x.needs(0, 0), 3);
        due("which", x.needs(0, 1), 7);
        text(x, "start b 4");
        due("none", x.needs(0, 0), -1);
        due("none", x.needs(0, 1), -1);
        text(x, "start b 0");
        text(x, "start a 9");
        due("no game", x.needs(0, 0), 0);
        due("no game", x.needs(0, 1), 0);
        due("what 2", x.needs(0, 2), -2);
        due("what -1", x.needs(0, -1), -2);
        due("none such", x.needs(3, 0), -2);
        due("none such", x.needs(-1, 0), -2);
        StillInIt nine = group("team a; team b; start b 9");
        for (int i = 0; i < 9; i++) text(nine, i % 2 == 0 ? "game a b 1" : "game b a 2");
        due("all nine", nine.needs(0, 0), 9);
        due("all nine", nine.needs(0, 1), 511);
        // A lost game's points go to who won it: a may lose to c, but not to b.
        StillInIt y = group("team a; team b; team c; start a 1; start b 2; game a b 1; game a c 2");
        due("which one", y.needs(0, 1), 1);
        due("how many", y.needs(0, 0), 1);
        StillInIt z = group("team a; team b; team c; start a 1; start b 2; game a c 1; game a b 2");
        due("which one", z.needs(0, 1), 2);
        due("how many", z.needs(0, 0), 1);
    }

    private static void promise18() {
        promise = 18;
        StillInIt x = group("team a; team b; game a b 5; game b a 9; game a b 9; game b a 30");
        due("never out", x.since(1, 0), -1);
        due("never sure", x.since(0, 1), -1);
        x.play(0, 1);
        x.play(1, 2);
        due("not yet out", x.since(1, 0), -1);
        due("level is sure", x.since(0, 1), 9);
        x.play(2, 1);
        due("out since 9", x.since(1, 0), 9);
        due("sure since 9", x.since(0, 1), 9);
        due("a is not out", x.since(0, 0), -1);
        due("b is not sure", x.since(1, 1), -1);
        x.unplay(1);
        x.play(3, 2);
        text(x, "start b 1");
        due("out since 30", x.since(1, 0), 30);
        due("sure since 30", x.since(0, 1), 30);
        text(x, "start a 9");
        due("out since 0", x.since(1, 0), 0);
        due("sure since 0", x.since(0, 1), 0);
        due("what 2", x.since(0, 2), -2);
        due("what -1", x.since(0, -1), -2);
        due("none such", x.since(2, 0), -2);
        due("none such", x.since(-1, 1), -2);
        due("nothing was changed", x.count(2), 1);
        StillInIt y = group("team a");
        due("alone sure", y.since(0, 1), 0);
        due("alone in", y.since(0, 0), -1);
        // By WINS a drawn game gives nothing, a game left gives 1: out as of day 0, in as of day 1.
        StillInIt z = group("team a; team b; team c; game b c 1; drew b c");
        due("in now", z.isIn(0), 1);
        due("but out as of 0", z.since(0, 0), 0);
        due("sure since 1", z.since(0, 1), 1);
    }

    private static void promise19() {
        promise = 19;
        StillInIt x = group("team a; team b; team c; start b 1; game a b 1; game b c 2; game a c 3");
        due("own", x.help(0, 0), 2);
        due("of others", x.help(0, 1), 6);
        text(x, "start b 2");
        due("of others", x.help(0, 1), 4);
        x.system(1);
        text(x, "start b 4");
        due("of others", x.help(0, 1), 4);
        text(x, "start b 3");
        due("of others, drawn too", x.help(0, 1), 5);
        text(x, "start b 2");
        due("of others, all", x.help(0, 1), 7);
        due("own", x.help(0, 0), 3);
        text(x, "start b 9");
        due("none", x.help(0, 0), 0);
        x.play(0, 1);
        due("played", x.help(0, 0), -3);
        due("BAD ahead", x.help(3, 0), -2);
        due("BAD ahead", x.help(-1, 0), -2);
        due("no game", x.help(0, 3), -2);
        due("no game", x.help(0, -1), -2);
        due("still left", x.count(2), 2);
    }

    private static void promise20() {
        promise = 20;
        StillInIt x = group("team a; team b; team c; start a 1; game b c 1; game b c 2; game a b 3; won b c");
        due("all", x.all(), 3);
        due("without one that was played", x.without(0), 7);
        due("without one that is left", x.without(1), 3);
        due("without the last", x.without(2), 7);
        x.play(1, 1);
        due("both won: without", x.without(2), 2);
        due("without a won one", x.without(1), 3);
        text(x, "start c 2");
        due("c, too", x.without(0), 7);
        due("no game", x.without(3), -2);
        due("no game", x.without(-1), -2);
        due("it is there", x.count(1), 3);
        due("it is as it was", x.game(0, 3), 1);
    }

    private static void promise21() {
        promise = 21;
        StillInIt x = group("team a; team b; game a b 1; game a b 2; game b a 3; game b a 4");
        due("4 by wins", x.tables(), 5);
        x.system(1);
        due("4 by shares", x.tables(), 9);
        x.system(2);
        due("4 by threes", x.tables(), 15);
        text(x, "game a b 5");
        due("5 are left", x.tables(), -6);
        x.play(4, 0);
        due("4 are left", x.tables(), 15);
        for (int k = 0; k < 4; k++) x.play(k, 1);
        due("none left", x.tables(), 1);
        StillInIt y = group("team a; team b; team c; team d; team e; team f; game a b 1; game c d 1; game e f 1; game a d 2");
        y.system(2);
        due("81 less none", y.tables(), 81);
        y.system(0);
        due("16", y.tables(), 16);
    }

    private static void promise22() {
        promise = 22;
        // 1 * 1103515245 + 12345 = 1103527590; >>> 9 is 2155327: 2155327 % 3 is 1, % 2 is 1.
        StillInIt x = group("team a; team b; game a b 1");
        due("by wins 2", x.drawn(1), 2);
        x.system(1);
        due("by shares 1", x.drawn(1), 1);
        // 0 * .. + 12345; >>> 9 is 24: a draw.
        due("by shares 0", x.drawn(0), 3);
        x.system(0);
        due("by wins 1", x.drawn(0), 1);
        due("no teams", new StillInIt().drawn(1), 0);
        due("no games", group("team a; team b; start b 3").drawn(77), 2);
        due("still left", x.count(2), 1);
        StillInIt y = group("team a; team b; team c; game a b 1; game b c 2; game c a 3; game a b 4; won a b");
        int[] seeds = {-1, 5, 123456789, Integer.MIN_VALUE, Integer.MAX_VALUE};
        for (int s = 0; s < 3; s++) {
            y.system(s);
            for (int seed : seeds) due("seed " + seed + " by " + s, y.drawn(seed), bestBySeed(s, seed));
        }
    }

    /** The group of promise22 by hand: game 0 was won by a, the others are drawn by a seed. */
    private static int bestBySeed(int system, int seed) {
        int won = system + 1;
        int drew = system == 0 ? 0 : 1;
        int[] points = {won, 0, 0};
        int[][] pairs = {{1, 2}, {2, 0}, {0, 1}};
        int z = seed;
        for (int[] p : pairs) {
            z = z * 1103515245 + 12345;
            int r = system == 0 ? 1 + (z >>> 9) % 2 : (z >>> 9) % 3;
            if (r == 0) {
                points[p[0]] += drew;
                points[p[1]] += drew;
            } else {
                points[p[r - 1]] += won;
            }
        }
        int most = Math.max(points[0], Math.max(points[1], points[2]));
        int bits = 0;
        for (int u = 0; u < 3; u++) if (points[u] == most) bits |= 1 << u;
        return bits;
    }

    private static void promise23() {
        promise = 23;
        for (int s = 0; s < 3; s++) {
            StillInIt x = group("team a; team b; team c; game a b 1; game b c 2; game c a 3");
            x.system(s);
            for (int m = 1; m <= 20; m++) {
                int good = 0;
                for (int i = 0; i < m; i++) good += x.drawn(Integer.MAX_VALUE - 5 + i) & 1;
                int common = 1;
                for (int d = 1; d <= m; d++) if (good % d == 0 && m % d == 0) common = d;
                due("above " + m, x.chance(0, Integer.MAX_VALUE - 5, m, 0), good / common);
                due("below " + m, x.chance(0, Integer.MAX_VALUE - 5, m, 1), m / common);
            }
        }
        StillInIt y = group("team a; team b; start a 9");
        due("none above", y.chance(1, 3, 20, 0), 0);
        due("none below", y.chance(1, 3, 20, 1), 1);
        due("all above", y.chance(0, 3, 20, 0), 1);
        due("all below", y.chance(0, 3, 20, 1), 1);
        due("m 0", y.chance(0, 3, 0, 0), -2);
        due("m 21", y.chance(0, 3, 21, 0), -2);
        due("m -1", y.chance(0, 3, -1, 1), -2);
        due("part 2", y.chance(0, 3, 5, 2), -2);
        due("part -1", y.chance(0, 3, 5, -1), -2);
        due("none such", y.chance(2, 3, 5, 0), -2);
        due("none such", y.chance(-1, 3, 5, 0), -2);
    }

    private static void promise24() {
        promise = 24;
        StillInIt x = group("team a; team b; game a b 1; game a b 2; game b a 3; game a b 4; game a b 5; game b a 6");
        sheetOf(x, 0, 1, 3, 3);
        due("3 of 6", x.tells(0, 0), 20);
        due("level", x.tells(0, 1), 3);
        sheetOf(x, 0, 1, 6);
        due("all 6", x.tells(0, 0), 1);
        due("who was told", x.tells(0, 1), 1);
        sheetOf(x, 0, 0);
        due("nothing told", x.tells(0, 0), 64);
        due("nobody told", x.tells(0, 1), 0);
        x.system(1);
        due("nothing told", x.tells(0, 0), 729);
        sheetOf(x, 0, 1, 6, 6);
        due("6 of 12", x.tells(0, 0), 141);
        sheetOf(x, 0, 1, 6, 7);
        due("13 are none", x.tells(0, 0), 0);
        due("but who is first", x.tells(0, 1), 2);
        sheetOf(x, 0, 1, -5, -7);
        due("below 0", x.tells(0, 0), 0);
        due("below 0", x.tells(0, 1), 1);
        text(x, "game a b 7");
        due("7 are left", x.tells(0, 0), -6);
        due("7 are left", x.tells(0, 1), 1);
        sheetOf(x, 0, 1, 1, 2, 3);
        due("BAD ahead of DEAR", x.tells(0, 0), -2);
        due("more than teams", x.tells(0, 1), -2);
        due("missing", x.tells(1, 0), -11);
        due("missing", x.tells(1, 1), -11);
        due("BAD ahead of missing", x.tells(1, 2), -2);
        due("what -1", x.tells(0, -1), -2);
        due("sheet 4", x.tells(4, 0), -2);
        due("sheet -1", x.tells(-1, 0), -2);
        sheetOf(x, 2, 0, 200, 100);
        due("bytes are 0 .. 255", x.tells(2, 1), 1);
    }

    private static void promise25() {
        promise = 25;
        StillInIt x = group("team a; team b; start b 4; game a b 1");
        sheetOf(x, 0, 0, 1, 2, 3);
        due("two", x.film(0, 1), 2);
        due("as was drawn", x.tells(0, 0), 1);
        due("b has 5", firstOfPair(x, 0, 1, 1, 5), 3);
        due("a has 0", firstOfPair(x, 0, 0, 1, 0), 3);
        due("of size 2", x.put(0, 2, 0), -12);
        due("ints", x.load(0, 0, 0, 0), -13);
        due("still left", x.count(2), 1);
        due("sheet 4", x.film(4, 1), -2);
        due("sheet -1", x.film(-1, 1), -2);
        x.system(2);
        due("two", x.film(3, 0), 2);
        due("drawn", x.tells(3, 0), 1);
        StillInIt y = new StillInIt();
        due("none", y.film(2, 9), 0);
        due("empty, not missing", y.tells(2, 1), 0);
        due("empty", y.put(2, 0, 0), -12);
    }

    private static void promise26And27() {
        promise = 26;
        StillInIt x = group("team a; team b; game a b 1; game b a 2; won a b; start b 3");
        x.system(1);
        due("two games", x.image(), 2);
        promise = 27;
        text(x, "team c");
        text(x, "start b 9");
        text(x, "game a c 3");
        x.unplay(0);
        x.play(1, 2);
        x.system(2);
        sheetOf(x, 0, 0, 7);
        feed(x, "abc");
        due("back", x.back(), 2);
        due("teams", x.count(0), 2);
        due("games", x.count(1), 2);
        due("left", x.count(2), 1);
        due("the tape stays", x.count(3), 3);
        due("system", x.count(4), 1);
        due("result", x.game(0, 3), 1);
        due("left", x.game(1, 3), -1);
        due("start", x.told(1, 0), 3);
        due("sheets stay", x.put(0, 0, 1), 1);
        due("no team c", named(x, ""), -1);
        due("a new team", text(x, "team d"), 2);
        due("its start", x.told(2, 0), 0);
        due("its name", x.told(2, 10), 'd');
        due("a new game", text(x, "game d a 9"), 2);
        due("its day", x.game(2, 2), 9);
        due("back again", x.back(), 2);
        due("teams", x.count(0), 2);
        x.play(1, 1);
        due("a later image", x.image(), 2);
        x.unplay(1);
        due("back to that", x.back(), 2);
        due("played", x.game(1, 3), 1);
        due("no image", group("team a").back(), -3);
        StillInIt y = new StillInIt();
        due("an empty one", y.image(), 0);
        text(y, "team a");
        due("back to none", y.back(), 0);
        due("none", y.count(0), 0);
    }

    private static void promise28() {
        promise = 28;
        StillInIt x = group("team a; team b; team c; game a b 1; game b c 1; won a b");
        x.system(2);
        feed(x, "qqqq");
        due("teams", x.count(0), 3);
        due("games", x.count(1), 2);
        due("left", x.count(2), 1);
        due("bytes", x.count(3), 4);
        due("system", x.count(4), 2);
        due("5", x.count(5), -2);
        due("-1", x.count(-1), -2);
    }

    private static void promise29() {
        promise = 29;
        StillInIt x = group("team a; team b");
        due("sheet 4", x.sheet(4, 0, 1), -2);
        due("sheet -1", x.sheet(-1, -1, 1), -2);
        due("sort 2", x.sheet(0, 2, 1), -2);
        due("sort -2", x.sheet(0, -2, 1), -2);
        due("sort ahead of size", x.sheet(0, 2, -1), -2);
        due("n 41", x.sheet(0, 0, 41), -2);
        due("n -1", x.sheet(0, 0, -1), -14);
        due("n least", x.sheet(0, 1, Integer.MIN_VALUE), -14);
        due("still missing", x.put(0, 0, 0), -11);
        due("n 40", x.sheet(0, 1, 40), 1);
        due("the last", x.put(0, 39, 5), 1);
        due("not more", x.put(0, 40, 5), -12);
        due("bad changes nothing", x.sheet(0, 1, 41), -2);
        due("the last", x.put(0, 39, 5), 1);
        x.put(0, 0, 9);
        due("anew", x.sheet(0, 1, 2), 1);
        due("all 0", firstOfPair(x, 0, 0, 1, 0), 3);
        due("n 0", x.sheet(0, 0, 0), 1);
        due("no item", x.put(0, 0, 0), -12);
        due("n does not matter", x.sheet(0, -1, 99), 1);
        due("missing", x.put(0, 0, 0), -11);
        due("n does not matter", x.sheet(0, -1, -99), 1);
        for (int s = 0; s < 4; s++) due("sheet " + s, x.sheet(s, s % 2, s), 1);
    }

    private static void promise30() {
        promise = 30;
        StillInIt x = group("team a; team b");
        due("sheet 4", x.put(4, 0, 0), -2);
        due("sheet -1", x.put(-1, 0, 0), -2);
        due("missing", x.put(0, 0, 0), -11);
        due("missing ahead of place", x.put(0, -1, 0), -11);
        x.sheet(0, 0, 2);
        x.sheet(1, 1, 2);
        due("place -1", x.put(0, -1, 0), -12);
        due("place 2", x.put(0, 2, 0), -12);
        due("a byte", x.put(0, 0, 256 + 7), 1);
        due("its lowest bits", firstOfPair(x, 0, 0, 0, 7), 3);
        due("a byte", x.put(0, 1, -1), 1);
        due("its lowest bits", firstOfPair(x, 0, 1, 0, 255), 3);
        due("an int", x.put(1, 1, Integer.MIN_VALUE), 1);
        due("as it is", firstOfPair(x, 1, 1, 1, Integer.MIN_VALUE), 3);
        due("an int", x.put(1, 0, 263), 1);
        due("as it is", firstOfPair(x, 1, 0, 1, 263), 3);
    }

    private static void promise31() {
        promise = 31;
        StillInIt x = group("team a; team b; team c; team d; team e");
        due("sheet 4", x.copy(4, 0, 0, 0, 0), -2);
        due("sheet -1", x.copy(-1, 0, 0, 0, 0), -2);
        due("other 4", x.copy(0, 0, 4, 0, 0), -2);
        due("other -1", x.copy(0, 0, -1, 0, 0), -2);
        due("missing", x.copy(0, 0, 1, 0, 0), -11);
        sheetOf(x, 0, 1, 5, 4, 3, 2, 1);
        due("missing", x.copy(0, 0, 1, 0, 1), -11);
        due("missing", x.copy(1, 0, 0, 0, 1), -11);
        sheetOf(x, 2, 0, 1, 2, 3);
        due("unlike", x.copy(0, 0, 2, 0, 1), -13);
        due("unlike ahead of outside", x.copy(2, 9, 0, 9, -1), -13);
        x.sheet(1, 1, 3);
        int[][] outside = {{-1, 0, 1}, {0, -1, 1}, {5, 0, 1}, {0, 3, 1}, {3, 0, 3}, {0, 1, 3}, {0, 0, -1}, {0, 0, 4},
            {6, 0, 0}, {0, 4, 0}, {1, 0, Integer.MAX_VALUE}, {Integer.MAX_VALUE, 0, 1}, {0, Integer.MAX_VALUE, 1},
            {0, 0, Integer.MIN_VALUE}, {-1, 0, 0}};
        for (int[] o : outside) due("outside " + o[0] + " " + o[1] + " " + o[2], x.copy(0, o[0], 1, o[1], o[2]), -12);
        due("nothing came", firstOfPair(x, 1, 0, 1, 0), 3);
        due("none at the ends", x.copy(0, 5, 1, 3, 0), 0);
        due("three", x.copy(0, 2, 1, 0, 3), 3);
        for (int i = 0; i < 3; i++) due("item " + i, firstOfPair(x, 1, i, 1, 3 - i), 3);
        due("over itself, up", x.copy(0, 0, 0, 1, 4), 4);
        int[] up = {5, 5, 4, 3, 2};
        for (int i = 0; i < 5; i++) due("item " + i, firstOfPair(x, 0, i, 1, up[i]), 3);
        due("over itself, down", x.copy(0, 2, 0, 0, 3), 3);
        int[] down = {4, 3, 2, 3, 2};
        for (int i = 0; i < 5; i++) due("item " + i, firstOfPair(x, 0, i, 1, down[i]), 3);
    }

    private static void promise32() {
        promise = 32;
        StillInIt x = group("team a; team b; team c");
        due("sheet 4", x.load(4, 0, 0, 1), -2);
        due("sheet -1", x.load(-1, 0, 0, 1), -2);
        due("sort 2", x.load(0, 2, 0, 1), -2);
        due("sort -1", x.load(0, -1, 0, 1), -2);
        due("n 10", x.load(0, 0, 0, 10), -2);
        due("n -1", x.load(0, 0, 0, -1), -2);
        due("missing", x.load(0, 0, 0, 0), -11);
        due("missing", x.load(0, 1, 99, 9), -11);
        sheetOf(x, 0, 1, 9, 0, 1, 30, 2, 1, 1, 0, 0, 5);
        due("another sort", x.load(0, 0, 0, 1), -13);
        due("another sort", x.load(0, 0, 99, 0), -13);
        due("none", x.load(0, 1, 0, 0), 0);
        due("none, wherever", x.load(0, 1, 99, 0), 0);
        due("two of three", x.load(0, 1, 1, 3), 2);
        due("one", x.game(0, 0), 0);
        due("other", x.game(0, 1), 1);
        due("day", x.game(0, 2), 30);
        due("left", x.game(0, 3), -1);
        due("one", x.game(1, 0), 2);
        due("day", x.game(1, 2), 1);
        due("what stood ahead came", x.load(0, 1, 4, 9), -12);
        due("what stood ahead came", x.count(1), 3);
        int[] outside = {-1, 8, 10, Integer.MAX_VALUE, Integer.MIN_VALUE};
        for (int from : outside) due("from " + from, x.load(0, 1, from, 1), -12);
        sheetOf(x, 1, 0, 0, 3, 5, 3, 0, 5, 0, 1, 0, 0, 1, 31, 0, 1, 255, 1, 1, 3);
        due("not as told", x.load(1, 0, 0, 6), 0);
        sheetOf(x, 1, 1, -1, 1, 5, 0, -1, 5, 0, 1, -5);
        due("not as told", x.load(1, 1, 0, 3), 0);
        due("three are", x.count(1), 3);
        x.sheet(2, 0, 27);
        for (int k = 0; k < 9; k++) {
            x.put(2, 3 * k, k % 3);
            x.put(2, 3 * k + 1, (k + 1) % 3);
            x.put(2, 3 * k + 2, k + 1);
        }
        due("room for six", x.load(2, 0, 0, 9), 6);
        due("nine", x.count(1), 9);
        due("the last one", x.game(8, 2), 6);
        due("no room", x.load(2, 0, 0, 9), 0);
        due("outside, too", x.load(2, 0, 3, 9), -12);
    }

    public static void main(String[] args) {
        promise1();
        promise2();
        promise3Faults();
        promise3Done();
        promise4();
        promise5();
        promise6();
        promise7();
        promise8();
        promise9();
        promise10();
        promise11();
        promise12();
        promise13();
        promise14();
        promise15();
        promise16();
        promise17();
        promise18();
        promise19();
        promise20();
        promise21();
        promise22();
        promise23();
        promise24();
        promise25();
        promise26And27();
        promise28();
        promise29();
        promise30();
        promise31();
        promise32();
        System.out.println(wrong == 0 ? "all promises hold" : wrong + " answers are not as due");
        if (wrong != 0) System.exit(1);
    }
}
