import java.lang.reflect.InvocationTargetException;
import java.lang.reflect.Method;
import java.util.Arrays;
import java.util.Comparator;

/** Any arguments in any state: no call throws, and the same calls give the same answers. */
public final class FuzzTest {
    private static final int[] EDGES = {Integer.MIN_VALUE, Integer.MIN_VALUE + 1, -100, -15, -3, -2, -1, 0, 1, 2, 3, 4, 5, 6, 7,
        8, 9, 10, 15, 16, 20, 21, 27, 29, 30, 31, 32, 39, 40, 41, 97, 98, 99, 116, 255, 256, 1 << 30, Integer.MAX_VALUE - 2,
        Integer.MAX_VALUE};
    private static final String[] WORDS = {"team a", "team b", "team c", "team dd", "team eeeeee", "team f", "team g", "start a 3",
        "start b 9", "start c 2", "start f 04", "game a b 3", "game b c 7", "game c a 7", "game dd a 9", "game f eeeeee 30",
        "game eeeeee b 1", "game dd f 2", "won a b", "won b a", "drew c b", "won a c", "drew dd a", "won f dd", "a", "b ", "x!"};
    private static long z = 4711L;

    private static int any(int below) {
        z = z * 6364136223846793005L + 1442695040888963407L;
        return (int) ((z >>> 33) % below);
    }

    private static Object[] anyArguments(Method m) {
        Object[] a = new Object[m.getParameterCount()];
        for (int i = 0; i < a.length; i++) a[i] = any(4) == 0 ? EDGES[any(EDGES.length)] : any(any(2) == 0 ? 3 : 10);
        return a;
    }

    /** A call on both objects; whether they answered, and alike. */
    private static boolean agree(StillInIt x, StillInIt y, Method m, Object... a) throws IllegalAccessException {
        try {
            Object first = m.invoke(x, a);
            if (first.equals(m.invoke(y, a))) return true;
            System.out.println(m.getName() + Arrays.toString(a) + " answered twice unlike");
        } catch (InvocationTargetException e) {
            System.out.println(m.getName() + Arrays.toString(a) + " threw " + e.getCause());
        }
        return false;
    }

    private static boolean feed(StillInIt x, StillInIt y, Method feed, String text) throws IllegalAccessException {
        for (int i = 0; i < text.length(); i++) {
            if (!agree(x, y, feed, 1, (int) text.charAt(i), 0, 0, 0, 0)) return false;
        }
        return true;
    }

    private static Method[] face() {
        Method[] all = StillInIt.class.getDeclaredMethods();
        Method[] open = Arrays.stream(all).filter(m -> java.lang.reflect.Modifier.isPublic(m.getModifiers())).toArray(Method[]::new);
        Arrays.sort(open, Comparator.comparing(Method::getName));
        return open;
    }

    public static void main(String[] args) throws Exception {
        Method[] face = face();
        Method feed = StillInIt.class.getMethod("feed", int.class, int.class, int.class, int.class, int.class, int.class);
        Method text = StillInIt.class.getMethod("text");
        boolean good = true;
        for (int i = 0; i < 400 && good; i++) {
            StillInIt x = new StillInIt();
            StillInIt y = new StillInIt();
            for (int c = 0; c < 500 && good; c++) {
                if (any(3) == 0) {
                    good = feed(x, y, feed, WORDS[any(WORDS.length)]) && (any(9) == 0 || agree(x, y, text));
                } else {
                    Method m = face[any(face.length)];
                    good = agree(x, y, m, anyArguments(m));
                }
            }
        }
        System.out.println(good ? "no call threw" : "a call failed");
        if (!good) System.exit(1);
    }
}
