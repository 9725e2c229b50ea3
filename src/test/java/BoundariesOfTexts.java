/** The tape, texts and names: promises 2, 3, 4, and the terms of a TEXT. */
final class BoundariesOfTexts {
    private BoundariesOfTexts() {
    }

    static void tryAll() {
        feedRanges();
        tapeFull();
        tokens();
        numbers();
        blanks();
        everyByte();
        textsOfTeams();
        textsOfGames();
        textsOfResults();
        namesAsTold();
        keywords();
        endsTooEarly();
        behindTheEnd();
        fullAndState();
        whichGameIsPlayed();
        texts40();
        namedEdges();
    }

    private static void feedRanges() {
        Bench.says(2, "n bytes (1 .. 5), a, b, .. (all 0 .. 255, also those that are not asked)");
        for (int n = 1; n <= 5; n++) Bench.due("feed " + n + " of 0", new StillInIt().feed(n, 0, 0, 0, 0, 0), n);
        for (int n = 1; n <= 5; n++) Bench.due("feed " + n + " of 255", new StillInIt().feed(n, 255, 255, 255, 255, 255), n);
        int[] counts = {0, 6, -1, Bench.LEAST, Bench.MOST};
        for (int n : counts) Bench.due("feed " + n, new StillInIt().feed(n, 1, 1, 1, 1, 1), Bench.BAD);
        int[] values = {-1, 256, Bench.LEAST, Bench.MOST};
        for (int n = 1; n <= 5; n++) {
            for (int place = 0; place < 5; place++) {
                for (int v : values) {
                    int[] b = {97, 97, 97, 97, 97};
                    b[place] = v;
                    StillInIt x = new StillInIt();
                    Bench.due(n + " bytes, " + v + " at " + place, x.feed(n, b[0], b[1], b[2], b[3], b[4]), Bench.BAD);
                    Bench.due("nothing came", x.count(3), 0);
                }
            }
        }
        Bench.says(2, "come behind THE TAPE: how many it has");
        StillInIt x = Bench.group("team abcdef");
        Bench.due("abc", x.feed(3, 'a', 'b', 'c', 'x', 'x'), 3);
        Bench.due("d", x.feed(1, 'd', 'x', 'x', 'x', 'x'), 4);
        Bench.due("ef", x.feed(2, 'e', 'f', 'x', 'x', 'x'), 6);
        Bench.due("in their order", x.named(), 0);
    }

    private static void tapeFull() {
        Bench.says(2, "FULL: they have no room");
        for (int there = 35; there <= 40; there++) {
            for (int n = 1; n <= 5; n++) {
                StillInIt x = new StillInIt();
                Bench.feed(x, "a".repeat(there));
                Bench.due(there + " there", x.count(3), there);
                boolean room = there + n <= 40;
                Bench.due(n + " behind " + there, x.feed(n, 98, 98, 98, 98, 98), room ? there + n : Bench.FULL);
                Bench.due("count", x.count(3), room ? there + n : there);
            }
        }
        Bench.says(Bench.TERMS, "THE TAPE (40 bytes at most)");
        StillInIt x = new StillInIt();
        for (int i = 1; i <= 40; i++) Bench.due("byte " + i, x.feed(1, 'a', 0, 0, 0, 0), i);
        Bench.due("byte 41", x.feed(1, 'a', 0, 0, 0, 0), Bench.FULL);
        Bench.due("a fault of 40", x.text(), -100);
        Bench.due("room again", x.feed(5, 'a', 0, 0, 0, 0), 5);
    }

    private static void tokens() {
        Bench.says(Bench.TERMS, "TOKENS, each as long as can be: WORDS (a .. z)");
        Bench.due("a word and no blank", Bench.text(new StillInIt(), "teamab"), -100);
        Bench.due("words by blanks", Bench.text(new StillInIt(), "team az"), 0);
        StillInIt x = Bench.group("team a; team b");
        Bench.due("a number ends a word", Bench.text(x, "start a7"), 0);
        Bench.due("that number", x.told(0, 0), 7);
        Bench.due("a word ends a number", Bench.text(x, "start a7b"), -108);
        Bench.due("nothing by a fault", x.told(0, 0), 7);
        Bench.due("a day behind its name", Bench.text(x, "game a b30"), 0);
        Bench.due("a number ends the first word", Bench.text(x, "start7"), -105);
        Bench.says(Bench.TERMS, "a byte that begins none");
        Bench.due("at the first place", Bench.text(x, "!"), -100);
        Bench.due("behind a blank", Bench.text(x, " !team c"), -101);
        Bench.due("stuck to a word", Bench.text(x, "team!c"), -104);
        Bench.due("stuck to a name", Bench.text(x, "team c!"), -106);
        Bench.due("stuck to a number", Bench.text(x, "start a 7!"), -109);
        Bench.due("ahead of a number", Bench.text(x, "start a -7"), -108);
    }

    private static void numbers() {
        Bench.says(Bench.TERMS, "NUMBERS (digits, as many as stand there, 0 ahead of others, too; more than 2 are too long)");
        StillInIt x = Bench.group("team a; team b");
        String[] good = {"0", "00", "1", "01", "9", "09"};
        int[] values = {0, 0, 1, 1, 9, 9};
        for (int i = 0; i < good.length; i++) {
            Bench.due("start a " + good[i], Bench.text(x, "start a " + good[i]), 0);
            Bench.due("its start", x.told(0, 0), values[i]);
        }
        String[] bad = {"000", "001", "009", "010", "100", "0000", "00000000000000000001", "99999999999", "4294967297"};
        for (String n : bad) Bench.due("start a " + n, Bench.text(x, "start a " + n), -108);
        for (String n : bad) Bench.due("game a b " + n, Bench.text(x, "game a b " + n), -109);
        Bench.due("start stays", x.told(0, 0), 9);
        Bench.due("no game", x.count(1), 0);

        Bench.says(Bench.TERMS, "start NAME NUMBER (0 .. 9)");
        for (int n = 0; n <= 99; n++) {
            StillInIt y = Bench.teams(1);
            Bench.due("start a " + n, Bench.text(y, "start a " + n), n <= 9 ? 0 : -108);
            Bench.due("start", y.told(0, 0), n <= 9 ? n : 0);
        }
        Bench.says(Bench.TERMS, "game NAME NAME NUMBER (a DAY)");
        for (int n = 0; n <= 99; n++) {
            StillInIt y = Bench.teams(2);
            boolean day = n >= 1 && n <= 30;
            Bench.due("game a b " + n, Bench.text(y, "game a b " + n), day ? 0 : -109);
            Bench.due("how many games", y.count(1), day ? 1 : 0);
            if (day) Bench.due("its day", y.game(0, 2), n);
        }
    }

    private static void blanks() {
        Bench.says(Bench.TERMS, "blanks (32, 10) may stand between");
        StillInIt x = Bench.teams(2);
        Bench.due("many", Bench.text(x, "game \n\n a  b\n 3"), 0);
        Bench.due("10 alone", Bench.text(x, "game\na\nb\n3"), 1);
        Bench.due("ahead and behind, too", Bench.text(x, "\n game a b 3 \n"), 2);
        int[] near = {9, 11, 13, 31, 33, 0, 160};
        for (int b : near) {
            Bench.due("byte " + b + " is none", Bench.text(x, "team" + (char) b + "c"), -104);
            Bench.due("byte " + b + " ahead", Bench.text(x, (char) b + "team c"), -100);
            Bench.due("byte " + b + " behind", Bench.text(x, "team c" + (char) b), -106);
        }
        Bench.due("no team by these", x.count(0), 2);
    }

    /** Each of 256 bytes where a name may begin, and behind a name. */
    private static void everyByte() {
        Bench.says(Bench.TERMS, "WORDS (a .. z), NUMBERS (digits");
        for (int b = 0; b <= 255; b++) {
            boolean letter = b >= 97 && b <= 122;
            boolean blank = b == 32 || b == 10;
            StillInIt x = new StillInIt();
            Bench.due("team and byte " + b, Bench.text(x, "team " + (char) b), letter ? 0 : blank ? -106 : -105);
            Bench.due("the team's letter", x.told(0, 10), letter ? b : Bench.BAD);
            StillInIt y = new StillInIt();
            Bench.due("team q and byte " + b, Bench.text(y, "team q" + (char) b), letter || blank ? 0 : -106);
            Bench.due("the team's letters", y.told(0, 4), letter ? 2 : blank ? 1 : Bench.BAD);
            StillInIt z = Bench.teams(1);
            boolean digit = b >= 48 && b <= 57;
            Bench.due("start a and byte " + b, Bench.text(z, "start a " + (char) b), digit ? 0 : blank ? -109 : -108);
            Bench.due("the start", z.told(0, 0), digit ? b - 48 : 0);
        }
    }

    private static void textsOfTeams() {
        Bench.says(Bench.TERMS, "NAME (1 to 6 letters a .. z, no two the same)");
        StillInIt x = new StillInIt();
        Bench.due("no letter", Bench.text(x, "team "), -105);
        String[] names = {"a", "zz", "abc", "wxyz", "abcde", "zyxwvu"};
        for (int i = 0; i < 6; i++) {
            Bench.due("seven letters", Bench.text(x, "team abcdefg"), -105);
            Bench.due("team " + names[i], Bench.text(x, "team " + names[i]), i);
            Bench.due("letters", x.told(i, 4), names[i].length());
            for (int j = 0; j < 6; j++) {
                Bench.due("letter " + j, x.told(i, 10 + j), j < names[i].length() ? names[i].charAt(j) : Bench.NONE);
            }
        }
        Bench.says(Bench.TERMS, "of team one that no TEAM has");
        for (String n : names) Bench.due("team " + n + " again", Bench.text(x, "team " + n), -105);
        StillInIt y = Bench.group("team ab");
        Bench.due("a part is another", Bench.text(y, "team a"), 1);
        Bench.due("longer is another", Bench.text(y, "team abc"), 2);
        Bench.due("turned is another", Bench.text(y, "team ba"), 3);
        Bench.due("the same", Bench.text(y, "team ba"), -105);
        StillInIt z = Bench.group("team ab");
        z.image();
        Bench.text(z, "team cd");
        z.back();
        Bench.due("a name that is gone", Bench.text(z, "team cd"), 1);
    }

    private static void textsOfGames() {
        Bench.says(Bench.TERMS, "else one that a TEAM has, the second one not the first one's");
        StillInIt x = Bench.group("team ab; team cd");
        String[] texts = {"start a 1", "start abc 1", "start ba 1", "game a cd 1", "game ab c 1", "game ab ab 1", "game cd cd 1",
            "won ab ab", "won xy ab", "won ab xy", "drew cd cd", "drew abc cd", "drew cd abc", "game ab ab", "won cd cd cd"};
        int[] places = {6, 6, 6, 5, 8, 8, 8, 7, 4, 7, 8, 5, 8, 8, 7};
        for (int i = 0; i < texts.length; i++) Bench.due(texts[i], Bench.text(x, texts[i]), -100 - places[i]);
        Bench.due("no TEAMS", Bench.text(new StillInIt(), "start a 1"), -106);
        Bench.due("no TEAMS", Bench.text(new StillInIt(), "game a b 1"), -105);
        Bench.due("no TEAMS", Bench.text(new StillInIt(), "won a b"), -104);
        Bench.due("no TEAMS", Bench.text(new StillInIt(), "drew a b"), -105);
        Bench.due("one TEAM", Bench.text(Bench.teams(1), "game a b 1"), -107);
        Bench.says(3, "the TEAM's number (team, start), the GAME's (else)");
        StillInIt y = Bench.teams(6);
        Bench.due("start of the last", Bench.text(y, "start f 3"), 5);
        Bench.due("start of the first", Bench.text(y, "start a 3"), 0);
        for (int k = 0; k < 9; k++) Bench.due("game", Bench.text(y, "game e f " + (9 - k)), k);
        Bench.due("the last game", Bench.text(y, "won f e"), 8);
        Bench.due("the one ahead", Bench.text(y, "drew f e"), 7);
    }

    private static void textsOfResults() {
        Bench.says(Bench.TERMS, "is PLAYED: the first NAME won; it was drawn");
        String[] texts = {"won a b", "won b a", "drew a b", "drew b a"};
        int[] results = {1, 2, 0, 0};
        for (int i = 0; i < 4; i++) {
            StillInIt x = Bench.group("team a; team b; game a b 1");
            Bench.due(texts[i], Bench.text(x, texts[i]), 0);
            Bench.due("result", x.game(0, 3), results[i]);
        }
    }

    private static void namesAsTold() {
        Bench.says(Bench.TERMS, "A NAME is a WORD of 6 letters at most");
        StillInIt x = Bench.group("team abcdef; team ghijkl");
        Bench.due("start", Bench.text(x, "start abcdef 1"), 0);
        Bench.due("start of seven letters", Bench.text(x, "start abcdefg 1"), -106);
        Bench.due("game of seven letters", Bench.text(x, "game abcdef ghijklm 1"), -112);
        Bench.due("won of seven letters", Bench.text(x, "won abcdefa ghijkl"), -104);
        Bench.due("35 letters", Bench.text(x, "team " + "x".repeat(35)), -105);
    }

    private static void keywords() {
        Bench.says(Bench.TERMS, "none of team, start, game, won, drew");
        String[] words = {"team", "start", "game", "won", "drew"};
        StillInIt x = Bench.teams(2);
        for (String w : words) {
            Bench.due("team " + w, Bench.text(x, "team " + w), -105);
            Bench.due("start " + w, Bench.text(x, "start " + w + " 1"), -106);
            Bench.due("game " + w, Bench.text(x, "game a " + w + " 1"), -107);
            Bench.due("won " + w, Bench.text(x, "won " + w + " a"), -104);
            Bench.due("drew " + w, Bench.text(x, "drew a " + w), -107);
            Bench.due(w + " more", Bench.text(x, w + "s a b 1"), -100);
            Bench.due(w + " less", Bench.text(x, w.substring(1) + " a b 1"), -100);
            for (int i = 0; i < w.length(); i++) {
                String near = w.substring(0, i) + "x" + w.substring(i + 1);
                Bench.due(near, Bench.text(x, near + " a b 1"), -100);
                Bench.due("a team " + near, Bench.text(new StillInIt(), "team " + near), 0);
            }
            StillInIt y = new StillInIt();
            Bench.due("team of one letter more", Bench.text(y, "team " + w + "s"), 0);
            Bench.due("team of one letter less", Bench.text(y, "team " + w.substring(1)), 1);
            Bench.due("it has a start", Bench.text(y, "start " + w + "s 5"), 0);
        }
        Bench.due("none came", x.count(0), 2);
    }

    /** Each text, cut behind each of its tokens and behind a blank. */
    private static void endsTooEarly() {
        Bench.says(Bench.TERMS, "(the text's size, if it ends too early)");
        String[] texts = {"team c", "start a 1", "game a b 1", "won a b", "drew a b"};
        for (String t : texts) {
            for (int i = 0; i < t.length(); i++) {
                if (t.charAt(i) != ' ') continue;
                Bench.due("'" + t.substring(0, i) + "'", Bench.text(Bench.teams(2), t.substring(0, i)), -100 - i);
                Bench.due("'" + t.substring(0, i + 1) + "'", Bench.text(Bench.teams(2), t.substring(0, i + 1)), -101 - i);
                Bench.due("40 bytes", Bench.text(Bench.teams(2), t.substring(0, i) + Bench.blanks(40 - i)), -140);
            }
        }
        Bench.due("THE TAPE empty", new StillInIt().text(), -100);
        Bench.due("one blank", Bench.text(new StillInIt(), " "), -101);
        Bench.due("40 blanks", Bench.text(new StillInIt(), Bench.blanks(40)), -140);
    }

    private static void behindTheEnd() {
        Bench.says(Bench.TERMS, "or drew NAME NAME; till the end");
        String[] texts = {"team c", "start a 1", "game a b 1", "won a b", "drew a b"};
        String[] more = {" x", " 1", " team", "\n!", " a b", "?"};
        for (String t : texts) {
            for (String m : more) {
                StillInIt x = Bench.group("team a; team b; game a b 2");
                int place = t.length() + (m.charAt(0) == '?' ? 0 : 1);
                Bench.due("'" + t + m + "'", Bench.text(x, t + m), -100 - place);
                Bench.due("no team, no game", x.count(0) * 10 + x.count(1), 21);
                Bench.due("nothing played", x.count(2), 1);
                Bench.due("no start", x.told(0, 0), 0);
            }
        }
        Bench.due("a second text", Bench.text(new StillInIt(), "team a team b"), -107);
        Bench.due("a number and another", Bench.text(Bench.teams(1), "start a 1 1"), -110);
    }

    private static void fullAndState() {
        Bench.says(Bench.TERMS, "Then: FULL (team: 6 are; game: 9 are)");
        StillInIt x = Bench.teams(5);
        Bench.due("the sixth", Bench.text(x, "team f"), 5);
        Bench.due("a seventh", Bench.text(x, "team g"), Bench.FULL);
        Bench.due("six", x.count(0), 6);
        Bench.addGames(x, 8, "a", "b");
        Bench.due("the ninth", Bench.text(x, "game a b 30"), 8);
        Bench.due("a tenth", Bench.text(x, "game a b 30"), Bench.FULL);
        Bench.due("nine", x.count(1), 9);
        Bench.says(3, "FULL; STATE (both behind a FAULT; THE TAPE is empty by them, too)");
        Bench.due("a fault ahead of FULL", Bench.text(x, "team g 7"), -107);
        Bench.due("a fault ahead of FULL", Bench.text(x, "team f"), -105);
        Bench.due("a fault ahead of FULL", Bench.text(x, "game a b 31"), -109);
        Bench.due("a fault ahead of FULL", Bench.text(x, "game a a 30"), -107);
        Bench.due("FULL", Bench.text(x, "team g"), Bench.FULL);
        Bench.due("THE TAPE is empty", x.count(3), 0);
        Bench.due("STATE", Bench.text(x, "won c d"), Bench.STATE);
        Bench.due("THE TAPE is empty", x.count(3), 0);
        Bench.due("a fault ahead of STATE", Bench.text(x, "won c d d"), -108);
        Bench.due("a fault ahead of STATE", Bench.text(x, "drew c d 1"), -109);
        Bench.due("start is never full", Bench.text(x, "start f 1"), 5);
        Bench.says(Bench.TERMS, "STATE (won, drew: no GAME between these two is LEFT)");
        StillInIt y = Bench.group("team a; team b; team c; game a b 1");
        Bench.due("no GAME of one", Bench.text(y, "won a c"), Bench.STATE);
        Bench.due("no GAME of one", Bench.text(y, "drew c b"), Bench.STATE);
        Bench.due("one is LEFT", Bench.text(y, "won b a"), 0);
        Bench.due("none is LEFT", Bench.text(y, "won b a"), Bench.STATE);
        Bench.due("none is LEFT", Bench.text(y, "drew a b"), Bench.STATE);
        y.unplay(0);
        Bench.due("LEFT again", Bench.text(y, "drew b a"), 0);
        Bench.due("no GAMES", Bench.text(Bench.teams(2), "won a b"), Bench.STATE);
    }

    private static void whichGameIsPlayed() {
        Bench.says(Bench.TERMS, "(whoever is the ONE) which is LEFT, of the least DAY, of like ones the least");
        StillInIt x = Bench.group("team a; team b; team c; game a c 1; game a b 30; game b a 2; game a b 2; game b a 1; game a b 1");
        int[] order = {4, 5, 2, 3, 1};
        for (int k : order) Bench.due("the next", Bench.text(x, "won a b"), k);
        Bench.due("none is LEFT", Bench.text(x, "won a b"), Bench.STATE);
        int[] results = {-1, 1, 2, 1, 2, 1};
        for (int k = 0; k < 6; k++) Bench.due("result of " + k, x.game(k, 3), results[k]);
    }

    private static void texts40() {
        Bench.says(3, "THE TAPE, which is empty then (by a FAULT, too), is done as a TEXT");
        StillInIt x = Bench.group("team abcdef; team ghijkl");
        Bench.due("40 bytes", Bench.text(x, "game" + Bench.blanks(21) + "abcdef ghijkl\n1"), 0);
        Bench.due("40 bytes", Bench.text(x, "drew abcdef ghijkl" + Bench.blanks(22)), 0);
        Bench.due("the last byte", Bench.text(x, "start abcdef" + Bench.blanks(27) + "9"), 0);
        Bench.due("its start", x.told(0, 0), 9);
        Bench.due("a fault at the last byte", Bench.text(x, "start abcdef 4" + Bench.blanks(25) + "4"), -139);
        Bench.due("empty by it", x.count(3), 0);
        Bench.due("its start stays", x.told(0, 0), 9);
    }

    private static void namedEdges() {
        Bench.says(4, "is a NAME, byte by byte: whose; NONE");
        StillInIt x = Bench.group("team a; team abcdef; team z; team b; team c; team teams");
        String[] tapes = {"a", "abcdef", "z", "teams", "abcde", "abcdefg", "abcdef ", " a", "a\n", "a a", "", "team", "A", "abcdeg", "aa", "5"};
        int[] whose = {0, 1, 2, 5, -1, -1, -1, -1, -1, -1, -1, -1, -1, -1, -1, -1};
        for (int i = 0; i < tapes.length; i++) {
            Bench.due("named '" + tapes[i] + "'", Bench.named(x, tapes[i]), whose[i]);
            Bench.due("empty behind it", x.count(3), 0);
        }
        Bench.due("40 bytes", Bench.named(x, "a".repeat(40)), Bench.NONE);
        Bench.due("no TEAMS", Bench.named(new StillInIt(), "a"), Bench.NONE);
        Bench.due("no TEAMS, THE TAPE empty", new StillInIt().named(), Bench.NONE);
        for (int b = 0; b <= 255; b++) {
            StillInIt y = Bench.teams(1);
            y.feed(1, b, 0, 0, 0, 0);
            Bench.due("byte " + b, y.named(), b == 'a' ? 0 : Bench.NONE);
        }
        StillInIt z = Bench.teams(1);
        z.image();
        Bench.text(z, "team b");
        z.back();
        Bench.due("a TEAM that is gone", Bench.named(z, "b"), Bench.NONE);
    }
}
