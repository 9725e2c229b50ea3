import java.lang.reflect.Constructor;
import java.lang.reflect.Field;
import java.lang.reflect.Method;
import java.lang.reflect.Modifier;
import java.nio.file.Files;
import java.nio.file.Path;
import java.util.Arrays;
import java.util.List;
import java.util.TreeSet;
import java.util.regex.Matcher;
import java.util.regex.Pattern;

/** The face of the class, and the rules of LANGUAGE.md that can be seen from outside or in the text. */
public final class LanguageTest {
    private static final String[] FACE = {"feed/6", "text/0", "named/0", "system/1", "play/2", "unplay/1", "told/2",
        "game/2", "between/2", "taken/1", "isIn/1", "all/0", "set/2", "run/2", "pattern/1", "needs/2", "since/2", "help/2",
        "without/1", "tables/0", "drawn/1", "chance/4", "tells/2", "film/2", "image/0", "back/0", "count/1", "sheet/3",
        "put/3", "copy/5", "load/4"};
    private static final String[] CONSTANTS = {"BAD", "DEAR", "FULL", "NONE", "STATE"};
    private static int wrong = 0;

    private static void hold(String rule, boolean holds) {
        if (holds) return;
        wrong++;
        System.out.println("not kept: " + rule);
    }

    private static void checkFace() {
        TreeSet<String> open = new TreeSet<>();
        TreeSet<String> names = new TreeSet<>();
        for (Method m : StillInIt.class.getDeclaredMethods()) {
            if (m.isSynthetic()) continue;
            if (Modifier.isPrivate(m.getModifiers())) continue;
            open.add(m.getName() + "/" + m.getParameterCount());
            names.add(m.getName());
            hold("1: public, an int: " + m, Modifier.isPublic(m.getModifiers()) && !Modifier.isStatic(m.getModifiers())
                && m.getReturnType() == int.class);
            for (Class<?> p : m.getParameterTypes()) hold("1: ints: " + m, p == int.class);
        }
        hold("1: the methods " + open, open.equals(new TreeSet<>(Arrays.asList(FACE))));
        for (Method m : StillInIt.class.getDeclaredMethods()) {
            hold("1: a private " + m, !Modifier.isPrivate(m.getModifiers()) || !names.contains(m.getName()));
        }
        TreeSet<String> constants = new TreeSet<>();
        for (Field f : StillInIt.class.getDeclaredFields()) {
            if (!Modifier.isPrivate(f.getModifiers())) constants.add(f.getName());
            checkStatic(f);
        }
        hold("1: the constants " + constants, constants.equals(new TreeSet<>(Arrays.asList(CONSTANTS))));
        Constructor<?>[] made = StillInIt.class.getDeclaredConstructors();
        hold("1: one constructor", made.length == 1 && Modifier.isPublic(made[0].getModifiers())
            && made[0].getParameterCount() == 0);
        hold("1: final", Modifier.isFinal(StillInIt.class.getModifiers()));
    }

    private static void checkStatic(Field f) {
        if (Modifier.isStatic(f.getModifiers())) hold("5: final " + f, Modifier.isFinal(f.getModifiers()));
    }

    private static void checkClasses() {
        Class<?>[] inside = StillInIt.class.getDeclaredClasses();
        hold("11: twelve classes", inside.length < 12);
        for (Class<?> c : inside) {
            hold("2: static " + c, Modifier.isStatic(c.getModifiers()));
            hold("1: private or package-visible " + c, !Modifier.isPublic(c.getModifiers())
                && !Modifier.isProtected(c.getModifiers()));
            int fields = 0;
            for (Field f : c.getDeclaredFields()) {
                checkStatic(f);
                if (!Modifier.isStatic(f.getModifiers())) fields++;
            }
            hold("11: twenty fields " + c, fields <= 20);
            for (Method m : c.getDeclaredMethods()) hold("11: seven parameters " + m, m.getParameterCount() <= 7);
        }
    }

    private static String withoutComments(String source) {
        return source.replaceAll("(?s)/\\*.*?\\*/", "").replaceAll("//[^\n]*", "");
    }

    private static void checkText(String source) {
        String code = withoutComments(source);
        String[] words = {"throw", "throws", "try", "catch", "finally", "synchronized", "assert", "package", "import",
            "native", "volatile", "Thread", "Random", "Exact", "equals", "hashCode", "toString", "protected"};
        for (String w : words) {
            hold("no " + w, !Pattern.compile("\\b\\w*" + (w.equals("Exact") ? "Exact" : "\\b" + w) + "\\b").matcher(code).find());
        }
        hold("2: no lambda", !code.contains("->"));
        hold("2: no method reference", !code.contains("::"));
        hold("5: no static block", !Pattern.compile("\\bstatic\\s*\\{").matcher(code).find());
        for (int i = 0; i < source.length(); i++) {
            char c = source.charAt(i);
            if (c > 126 || c < 32 && c != '\n') hold("signs 1 to 127 at " + i, false);
        }
        Matcher library = Pattern.compile("\\b(System|Math|Integer|Long|Arrays)\\.(\\w+)").matcher(code);
        List<String> listed = List.of("System.arraycopy", "Integer.bitCount");
        while (library.find()) hold("4: " + library.group(), listed.contains(library.group()));
    }

    /** The room: what is made is made by constructors alone. */
    private static void checkRoom(String source) {
        Matcher made = Pattern.compile("(?m)^.*\\bnew\\b.*$").matcher(withoutComments(source));
        while (made.find()) {
            String line = made.group();
            boolean field = line.matches(" {8}final int\\[\\] \\w+ = new int\\[.*;") || line.matches(" {8}final long\\[\\] seen = .*;");
            boolean inConstructor = line.matches(" {8}\\w+ = new .*;") || line.matches(" {8}for \\(int i = 0; i < SHEETS; i\\+\\+\\) .*");
            hold("12: made outside a constructor: " + line, field || inConstructor);
        }
    }

    private static void checkLengths(String source) {
        int since = 0;
        String[] lines = source.split("\n");
        for (int i = 0; i < lines.length; i++) {
            if (lines[i].matches(" {4,8}[\\w ]+[\\w\\[\\]]+ \\w+\\(.*\\) \\{")) since = i;
            if (lines[i].matches(" {4}(    )?\\}") && since > 0) {
                hold("11: sixty lines from line " + (since + 1), i - since < 60);
                since = 0;
            }
        }
    }

    public static void main(String[] args) throws Exception {
        String source = Files.readString(Path.of("src/main/java/StillInIt.java"));
        checkFace();
        checkClasses();
        checkText(source);
        checkRoom(source);
        checkLengths(source);
        System.out.println(wrong == 0 ? "the rules are kept" : wrong + " rules are not kept");
        if (wrong != 0) System.exit(1);
    }
}
