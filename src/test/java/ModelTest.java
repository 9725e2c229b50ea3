import java.lang.reflect.InvocationTargetException;
import java.lang.reflect.Method;
import java.lang.reflect.Modifier;
import java.util.ArrayDeque;
import java.util.Arrays;
import java.util.Comparator;
import java.util.HashMap;
import java.util.List;
import java.util.Map;

/** Runs of 512 calls by seeds, of the whole face, with right and wrong numbers: every answer beside Model's. */
public final class ModelTest {
    private static final int RUNS = 300, CALLS = 512;
    private static final int[] EDGES = {Integer.MIN_VALUE, Integer.MIN_VALUE + 1, -40, -15, -3, -2, -1, 10, 16, 20, 21, 30, 31, 40,
        41, 255, 256, 257, 1 << 30, Integer.MAX_VALUE - 2, Integer.MAX_VALUE};
    private static final String[] NAMES = {"a", "ab", "b", "zz", "cdefgh", "wonson", "tea", "starts", "qqqqqqq", "won"};
    private static final String SIGNS = " \nabwz0139!{`/:\u00ff";
    // How often a call comes beside the others; 1, if it isn't named.
    private static final Map<String, Integer> OFTEN = Map.of("play", 3, "unplay", 2, "put", 6, "load", 4, "run", 4, "help", 3,
        "since", 2, "needs", 2, "sheet", 2, "tells", 2);

    // What each promise names beside its plain answer; all of it must come up, or the runs are too tame.
    private static final String REFUSALS = "feed -2 -4, text -3 -4 fault, named -1, system -2, play -2 -3, unplay -2 -3, told -1 -2, "
        + "game -1 -2, between -2, taken -2 -13, isIn -2, set -2, run -1 -2 -3, pattern -1 -2, needs -1 -2, since -1 -2, help -2 -3, "
        + "without -2, tables -6, chance -2, tells -2 -6 -11, film -2, back -3, count -2, sheet -2 -14, put -2 -11 -12, "
        + "copy -2 -11 -12 -13, load -2 -11 -12 -13";

    private final Map<String, Method> real = new HashMap<>();
    private final Map<String, Method> due = new HashMap<>();
    private final ArrayDeque<String> behind = new ArrayDeque<>();
    private final Map<String, Integer> seen = new HashMap<>();
    private String[] urn;
    private StillInIt x;
    private Model y;
    private int calls;
    private long z;
    private int wrong = 0;

    private int any(int below) {
        z = z * 6364136223846793005L + 1442695040888963407L;
        return (int) ((z >>> 33) % below);
    }

    private void readFace() {
        for (Method m : StillInIt.class.getDeclaredMethods()) {
            if (Modifier.isPublic(m.getModifiers())) real.put(m.getName(), m);
        }
        for (Method m : Model.class.getDeclaredMethods()) {
            if (real.containsKey(m.getName()) && !Modifier.isPrivate(m.getModifiers())) due.put(m.getName(), m);
        }
        if (real.size() != 31 || due.size() != 31) throw new IllegalStateException("the face has 31 methods");
        StringBuilder names = new StringBuilder();
        real.keySet().stream().sorted(Comparator.naturalOrder()).forEach(n -> {
            for (int i = 0; i < OFTEN.getOrDefault(n, 1); i++) names.append(n).append(' ');
        });
        urn = names.toString().split(" ");
    }

    /** A call on both; behind the first wrong answer of a run nothing more is asked in it. */
    private boolean ask(String name, Object... a) throws IllegalAccessException {
        if (calls == CALLS) return false;
        calls++;
        String call = name + Arrays.toString(a);
        behind.addLast(call);
        if (behind.size() > 12) behind.removeFirst();
        try {
            int got = (int) real.get(name).invoke(x, a);
            int want = (int) due.get(name).invoke(y, a);
            seen.merge(name + (want < 0 && want > -100 ? " " + want : want < 0 ? " fault" : ""), 1, Integer::sum);
            if (got == want) return true;
            System.out.println(call + " answered " + got + ", due is " + want + ", behind " + behind);
        } catch (InvocationTargetException e) {
            System.out.println(call + " threw " + e.getCause() + ", behind " + behind);
        }
        wrong++;
        return false;
    }

    // ---- texts

    private String blanks() {
        String[] some = {" ", " ", " ", " ", "  ", "\n", " \n "};
        return some[any(some.length)];
    }

    /** Mostly one that a team has, as they come in order. */
    private String name() {
        int teams = y.count(0);
        return NAMES[any(any(8) == 0 || teams == 0 ? NAMES.length : teams)];
    }

    private String newName() {
        return any(8) == 0 ? name() : NAMES[y.count(0)];
    }

    private String number(int most) {
        int n = any(8) == 0 ? any(130) : any(most + 1);
        return any(6) == 0 ? "0" + n : "" + n;
    }

    private String anyText(boolean early) {
        int sort = y.count(0) < 2 ? 0 : early ? any(5) : any(7);
        String text = switch (sort) {
            case 0 -> "team" + blanks() + newName();
            case 1 -> "start" + blanks() + name() + blanks() + number(any(2) == 0 ? 3 : 9);
            case 2, 3, 4 -> "game" + blanks() + name() + blanks() + name() + blanks() + number(30);
            case 5 -> "won" + blanks() + name() + blanks() + name();
            default -> "drew" + blanks() + name() + blanks() + name();
        };
        if (any(6) == 0) text = blanks() + text;
        if (any(6) == 0) text = text + blanks();
        if (any(5) == 0) text = changed(text);
        return text;
    }

    /** A sign comes, goes, or becomes another one. */
    private String changed(String text) {
        int at = any(text.length() + 1);
        int sort = any(4);
        String sign = sort == 0 ? "" : "" + SIGNS.charAt(any(SIGNS.length()));
        int to = sort == 1 ? at : sort == 2 ? text.length() : Math.min(at + 1, text.length());
        return text.substring(0, at) + sign + text.substring(to);
    }

    private boolean feed(String text) throws IllegalAccessException {
        for (int i = 0; i < text.length(); ) {
            int n = Math.min(any(5) == 0 ? 1 + any(5) : 5, text.length() - i);
            Object[] a = {n, any(256), any(256), any(256), any(256), any(256)};
            for (int j = 0; j < n; j++) a[1 + j] = (int) text.charAt(i + j);
            if (!ask("feed", a)) return false;
            i += n;
        }
        return true;
    }

    // ---- numbers

    private int number() {
        if (any(20) == 0) return EDGES[any(EDGES.length)];
        return any(any(2) == 0 ? 2 : any(2) == 0 ? 4 : 10);
    }

    private int team() {
        return any(12) == 0 ? number() : any(y.count(0) + 1);
    }

    private int game() {
        return any(12) == 0 ? number() : any(y.count(1) + 1);
    }

    private Object[] numbers(String name) {
        Object[] a = new Object[real.get(name).getParameterCount()];
        for (int i = 0; i < a.length; i++) a[i] = number();
        boolean plain = any(4) != 0;
        if (List.of("told", "isIn", "set", "run", "pattern", "needs", "since", "help", "chance", "between").contains(name)) a[0] = team();
        if (List.of("play", "unplay", "game", "without").contains(name)) a[0] = game();
        if (List.of("run", "help").contains(name)) a[1] = game();
        if (name.equals("between")) a[1] = team();
        if (List.of("set", "needs", "since", "tells").contains(name) && plain) a[1] = any(2);
        if (name.equals("told") && plain) a[1] = any(2) == 0 ? any(6) : 9 + any(8);
        if (name.equals("drawn")) a[0] = any(1 << 30) * 5;
        if (name.equals("film")) a[1] = any(3) == 0 ? Integer.MAX_VALUE - any(3) : any(1 << 30) * 7;
        if (name.equals("chance") && plain) a[1] = any(3) == 0 ? Integer.MAX_VALUE - any(9) : any(1 << 30) * 3;
        if (name.equals("chance") && plain) a[2] = any(22);
        if (name.equals("sheet") && plain) a[2] = any(any(2) == 0 ? 4 : 42);
        if (name.equals("put") && plain) a[1] = any(any(2) == 0 ? 3 : 30);
        if (name.equals("put") && any(4) == 0) a[2] = -1 - any(300);
        if (name.equals("load") && plain) a[2] = 3 * any(4);
        if (name.equals("load") && plain) a[3] = any(6) == 0 ? 8 + any(3) : any(3);
        return a;
    }

    // ---- runs

    private boolean step(boolean early) throws IllegalAccessException {
        // What is still on the tape would spoil what comes; now and then it may.
        if (early || any(9) == 0) return (any(9) == 0 || y.count(3) == 0 || ask("text")) && feed(anyText(early)) && ask("text");
        if (any(40) == 0) return (y.count(3) == 0 || ask("named")) && feed(any(3) == 0 ? changed(name()) : name()) && ask("named");
        if (any(150) == 0) return feed(anyText(false) + blanks() + anyText(false) + anyText(false));
        String name = urn[any(urn.length)];
        return ask(name, numbers(name));
    }

    private void oneRun(int number) throws IllegalAccessException {
        z = 20261118L * 1000 + number;
        x = new StillInIt();
        y = new Model();
        calls = 0;
        behind.clear();
        int early = 20 + any(100);
        boolean goes = true;
        for (int i = 0; i < CALLS && goes; i++) goes = step(calls < early);
    }

    private void checkRefusals() {
        for (String call : REFUSALS.split(", ")) {
            String[] parts = call.split(" ");
            for (int i = 1; i < parts.length; i++) {
                if (seen.containsKey(parts[0] + " " + parts[i])) continue;
                wrong++;
                System.out.println("no run came to " + parts[0] + " " + parts[i]);
            }
        }
        for (String name : real.keySet()) {
            if (seen.containsKey(name)) continue;
            wrong++;
            System.out.println("no run came to a plain answer of " + name);
        }
    }

    public static void main(String[] args) throws Exception {
        ModelTest test = new ModelTest();
        test.readFace();
        // A number behind the name asks for more runs, or fewer.
        int runs = args.length > 0 ? Integer.parseInt(args[0]) : RUNS;
        for (int i = 0; i < runs && test.wrong < 20; i++) test.oneRun(i);
        if (test.wrong == 0) test.checkRefusals();
        System.out.println(test.wrong == 0 ? "all answers are as the model's" : test.wrong + " faults");
        if (test.wrong != 0) System.exit(1);
    }
}
