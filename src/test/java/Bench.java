import java.io.IOException;
import java.nio.file.Files;
import java.nio.file.Path;
import java.util.Set;
import java.util.TreeSet;
import java.util.function.Function;
import java.util.function.Supplier;
import java.util.function.ToIntFunction;

/** What the tests of boundaries share: the document's sentences, groups to try them on, looks at all of an object. */
final class Bench {
    static final int NONE = -1, BAD = -2, STATE = -3, FULL = -4, DEAR = -6;
    static final int MISSING = -11, OUTSIDE = -12, UNLIKE = -13, NEGATIVE = -14;
    static final int LEAST = Integer.MIN_VALUE, MOST = Integer.MAX_VALUE;
    static final int TERMS = 0, PROMISES = 32;

    private static final Path DOCUMENT = Path.of("../shared/DOC.md");
    private static final String[] SECTIONS = sections();
    private static final Set<String> SEEN = new TreeSet<>();
    private static int wrong = 0;
    private static int promise = 0;
    private static String sentence = "";

    private Bench() {
    }

    // ---- the document

    /** Its parts: the terms and what stands ahead of them, then each promise. */
    private static String[] sections() {
        String[] parts = new String[PROMISES + 1];
        try {
            String all = Files.readString(DOCUMENT).replaceAll("\\s+", " ");
            parts[TERMS] = between(all, "## What it is", "## Promise 1:");
            for (int p = 1; p <= PROMISES; p++) {
                parts[p] = between(all, "## Promise " + p + ":", p < PROMISES ? "## Promise " + (p + 1) + ":" : "## Not promised");
            }
        } catch (IOException e) {
            throw new IllegalStateException("the document is not at " + DOCUMENT, e);
        }
        return parts;
    }

    private static String between(String all, String from, String to) {
        int begin = all.indexOf(from);
        int end = all.indexOf(to);
        if (begin < 0 || end < begin) throw new IllegalStateException("the document has no part '" + from + "'");
        return all.substring(begin, end);
    }

    /** The sentence that the calls behind this try; the document must say it there. */
    static void says(int number, String words) {
        promise = number;
        sentence = words;
        if (!SECTIONS[number].contains(words)) fail("the document does not say so");
    }

    /** Every refusal that a promise names was due in a call that tried that promise. */
    static void checkAllRefusals() {
        String[] names = {"NONE", "BAD", "STATE", "FULL", "DEAR", "-11", "-12", "-13", "-14"};
        int[] answers = {NONE, BAD, STATE, FULL, DEAR, MISSING, OUTSIDE, UNLIKE, NEGATIVE};
        for (int p = 1; p <= PROMISES; p++) {
            says(p, "## Promise " + p + ":");
            for (int i = 0; i < names.length; i++) {
                boolean named = SECTIONS[p].matches(".*(?<![\\w-])" + names[i] + "(?!\\w).*");
                if (named && !SEEN.contains(p + " " + answers[i])) fail("no call was due to answer " + names[i]);
            }
            if (SEEN.stream().noneMatch(s -> s.startsWith(promise + " "))) fail("nothing was tried");
        }
    }

    // ---- answers

    private static void fail(String what) {
        wrong++;
        System.out.println((promise == TERMS ? "terms" : "promise " + promise) + ", '" + sentence + "': " + what);
    }

    static void due(String call, int got, int want) {
        SEEN.add(promise + " " + want);
        if (got != want) fail(call + " answered " + got + ", due is " + want);
    }

    /** Ends with exit code 1, if an answer was not the one that was due. */
    static void finish() {
        System.out.println(wrong == 0 ? "all boundaries hold" : wrong + " answers are not as due");
        if (wrong != 0) System.exit(1);
    }

    // ---- making

    static void feed(StillInIt x, String text) {
        for (int i = 0; i < text.length(); i += 5) {
            int[] b = new int[5];
            int n = Math.min(5, text.length() - i);
            for (int j = 0; j < n; j++) b[j] = text.charAt(i + j);
            x.feed(n, b[0], b[1], b[2], b[3], b[4]);
        }
    }

    static int text(StillInIt x, String text) {
        feed(x, text);
        return x.text();
    }

    static int named(StillInIt x, String text) {
        feed(x, text);
        return x.named();
    }

    /** A new object with these texts, by ';'. */
    static StillInIt group(String texts) {
        StillInIt x = new StillInIt();
        for (String t : texts.split(";")) {
            if (text(x, t.trim()) < 0) throw new IllegalStateException("no group: " + t);
        }
        return x;
    }

    static StillInIt group(int system, String texts) {
        StillInIt x = group(texts);
        x.system(system);
        return x;
    }

    /** TEAMS a, b, .. as many. */
    static StillInIt teams(int n) {
        StillInIt x = new StillInIt();
        for (int u = 0; u < n; u++) text(x, "team " + (char) ('a' + u));
        return x;
    }

    /** As many GAMES of two TEAMS, on day 1, then 2, .. */
    static void addGames(StillInIt x, int n, String one, String other) {
        for (int k = 1; k <= n; k++) text(x, "game " + one + " " + other + " " + k);
    }

    static void row(StillInIt x, int sheet, int sort, int... items) {
        x.sheet(sheet, sort, items.length);
        for (int i = 0; i < items.length; i++) x.put(sheet, i, items[i]);
    }

    static String blanks(int n) {
        return " ".repeat(n);
    }

    /** What the known sheets hold: ints below 0 and above a byte, bytes of which some are above 127. */
    static int knownItem(int sort, int i) {
        return sort == 1 ? 1000 * i - 1 : 7 * i + 120 & 255;
    }

    private static void knownRow(StillInIt x, int sheet, int sort, int n) {
        x.sheet(sheet, sort, n);
        for (int i = 0; i < n; i++) x.put(sheet, i, knownItem(sort, i));
    }

    /** Three TEAMS, four GAMES (0 and 2 PLAYED), an image of less, a text on the tape; SHEET 2 of size 0, SHEET 3 missing. */
    static StillInIt some() {
        StillInIt x = group(2, "team ab; team cd; start ab 4; game ab cd 3; won ab cd");
        x.image();
        for (String t : new String[] {"team efg", "start cd 1", "game cd ab 5", "game efg ab 5", "drew efg ab", "game cd efg 30"}) text(x, t);
        x.system(1);
        knownRow(x, 0, 1, 3);
        knownRow(x, 1, 0, 3);
        x.sheet(2, 0, 0);
        feed(x, "start cd 7");
        return x;
    }

    /** 6 TEAMS, 9 GAMES (0 PLAYED), 40 bytes on the tape, 40 items in SHEETS 0 and 1; SHEET 2 of size 0, SHEET 3 missing. */
    static StillInIt full() {
        StillInIt x = group(1, "team abcdef; team b; team c; team d; team e; team f; start abcdef 9; start f 2");
        x.sheet(0, 1, 27);
        for (int k = 0; k < 9; k++) {
            x.put(0, 3 * k, k % 6);
            x.put(0, 3 * k + 1, (k + 1 + k / 6) % 6);
            x.put(0, 3 * k + 2, 30 - k);
        }
        x.load(0, 1, 0, 9);
        x.image();
        x.play(0, 2);
        x.system(2);
        knownRow(x, 0, 1, 40);
        knownRow(x, 1, 0, 40);
        x.sheet(2, 1, 0);
        feed(x, "start b" + blanks(32) + "8");
        return x;
    }

    // ---- looking at all of an object; each look is for an object of its own, as some of them change it

    static String lookAtGroup(StillInIt x) {
        StringBuilder s = new StringBuilder();
        for (int what = 0; what <= 4; what++) s.append(x.count(what)).append(' ');
        for (int u = 0; u < 6; u++) {
            for (int what = 0; what <= 4; what++) s.append(x.told(u, what)).append(' ');
            for (int what = 10; what <= 15; what++) s.append(x.told(u, what)).append(' ');
        }
        for (int k = 0; k < 9; k++) {
            for (int what = 0; what <= 3; what++) s.append(x.game(k, what)).append(' ');
        }
        return s.toString();
    }

    static String lookAtTape(StillInIt x) {
        String s = x.count(3) + " " + x.text();
        for (int u = 0; u < 6; u++) s += " " + x.told(u, 0);
        return s;
    }

    static String lookAtImage(StillInIt x) {
        return x.back() + " " + lookAtGroup(x);
    }

    /** Which are missing, their sizes and sorts. */
    static String lookAtSheets(StillInIt x) {
        StringBuilder s = new StringBuilder();
        for (int sheet = 0; sheet < 4; sheet++) {
            for (int i = 0; i <= 41; i++) s.append(x.copy(sheet, i, sheet, i, 0)).append(' ');
            s.append(x.load(sheet, 0, 0, 0)).append(' ').append(x.load(sheet, 1, 0, 0)).append(' ');
        }
        return s.toString();
    }

    /** Each item beside what it is known to be; SHEET 3 is lost by it. */
    static String lookAtItems(StillInIt x, int sheet) {
        int sort = x.load(sheet, 0, 0, 0) == 0 ? 0 : 1;
        x.sheet(3, sort, 2);
        StringBuilder s = new StringBuilder();
        for (int i = 0; i < 40; i++) {
            s.append(x.copy(sheet, i, 3, 0, 1)).append(' ');
            x.put(3, 1, knownItem(sort, i));
            s.append(x.tells(3, 1)).append(' ');
        }
        return s.toString();
    }

    /** What an item is, found by halves; SHEET 3 is lost by it, and two TEAMS are needed. */
    static int item(StillInIt x, int sheet, int sort, int i) {
        x.sheet(3, sort, 2);
        if (x.copy(sheet, i, 3, 0, 1) != 1) throw new IllegalStateException("no item " + i);
        long low = sort == 0 ? 0 : LEAST;
        long high = sort == 0 ? 255 : MOST;
        for (int step = 0; step < 33 && low < high; step++) {
            long middle = low + high >> 1;
            x.put(3, 1, (int) middle);
            // 1: the item alone is first, so it is above the middle.
            if (x.tells(3, 1) == 1) low = middle + 1;
            else high = middle;
        }
        return (int) low;
    }

    private static void sameLooks(String call, Supplier<StillInIt> one, Supplier<StillInIt> other) {
        same(call, "the group", Bench::lookAtGroup, one, other);
        same(call, "the tape", Bench::lookAtTape, one, other);
        same(call, "the image", Bench::lookAtImage, one, other);
        same(call, "the sheets", Bench::lookAtSheets, one, other);
        same(call, "sheet 0", x -> lookAtItems(x, 0), one, other);
        same(call, "sheet 1", x -> lookAtItems(x, 1), one, other);
    }

    private static void same(String call, String part, Function<StillInIt, String> look, Supplier<StillInIt> one, Supplier<StillInIt> other) {
        String a = look.apply(one.get());
        String b = look.apply(other.get());
        if (!a.equals(b)) fail(call + " changed " + part + ": " + a + " is not " + b);
    }

    private static StillInIt after(Supplier<StillInIt> made, ToIntFunction<StillInIt> call) {
        StillInIt x = made.get();
        call.applyAsInt(x);
        return x;
    }

    /** A call that answers so, and changes nothing. */
    static void only(String label, Supplier<StillInIt> made, ToIntFunction<StillInIt> call, int want) {
        due(label, call.applyAsInt(made.get()), want);
        sameLooks(label, () -> after(made, call), made);
    }

    /** A text that answers so: the tape is empty behind it, and nothing else is changed. */
    static void onlyTape(String tape, Supplier<StillInIt> made, ToIntFunction<StillInIt> call, int want) {
        Supplier<StillInIt> emptied = () -> after(made, StillInIt::named);
        Supplier<StillInIt> fed = () -> {
            StillInIt x = emptied.get();
            feed(x, tape);
            return x;
        };
        String label = "'" + tape + "'";
        StillInIt x = fed.get();
        due(label, call.applyAsInt(x), want);
        due("the tape behind " + label, x.count(3), 0);
        sameLooks(label, () -> after(fed, call), emptied);
    }
}
