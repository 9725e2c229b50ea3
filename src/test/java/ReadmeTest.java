import java.lang.reflect.Method;
import java.nio.file.Files;
import java.nio.file.Path;
import java.util.regex.Matcher;
import java.util.regex.Pattern;

/** README.md's lines: each call answers what stands behind it. */
public final class ReadmeTest {
    private static final Pattern LINE = Pattern.compile("(?:say\\(x, \"([^\"]*)\"\\)|x\\.(\\w+)\\(([^)]*)\\));\\s+// (-?\\d+)\\b.*");
    private static final int CALLS_AT_LEAST = 30;

    private static int say(StillInIt x, String text) {
        int[] b = new int[5];
        for (int i = 0; i < text.length(); i += 5) {
            int n = Math.min(5, text.length() - i);
            for (int j = 0; j < n; j++) b[j] = text.charAt(i + j);
            x.feed(n, b[0], b[1], b[2], b[3], b[4]);
        }
        return x.text();
    }

    private static int call(StillInIt x, String name, String numbers) throws Exception {
        String[] words = numbers.isEmpty() ? new String[0] : numbers.split(", ");
        Object[] a = new Object[words.length];
        Class<?>[] ints = new Class<?>[words.length];
        for (int i = 0; i < words.length; i++) {
            a[i] = Integer.parseInt(words[i]);
            ints[i] = int.class;
        }
        Method m = StillInIt.class.getMethod(name, ints);
        return (int) m.invoke(x, a);
    }

    public static void main(String[] args) throws Exception {
        StillInIt x = new StillInIt();
        int calls = 0;
        int wrong = 0;
        for (String line : Files.readAllLines(Path.of("README.md"))) {
            if (!line.startsWith("x.") && !line.startsWith("say(")) continue;
            calls++;
            Matcher m = LINE.matcher(line);
            if (!m.matches()) {
                wrong++;
                System.out.println("'" + line + "' can't be read");
                continue;
            }
            int got = m.group(1) != null ? say(x, m.group(1)) : call(x, m.group(2), m.group(3));
            if (got == Integer.parseInt(m.group(4))) continue;
            wrong++;
            System.out.println("'" + line + "' answered " + got);
        }
        if (calls < CALLS_AT_LEAST) {
            wrong++;
            System.out.println("README.md has " + calls + " calls alone");
        }
        System.out.println(wrong == 0 ? "README.md holds" : wrong + " lines of README.md do not hold");
        if (wrong != 0) System.exit(1);
    }
}
