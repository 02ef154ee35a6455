import java.lang.reflect.Method;
import java.lang.reflect.Modifier;
import java.util.ArrayList;
import java.util.Arrays;
import java.util.Comparator;
import java.util.List;
import java.util.Random;

/** Wild numbers in any state: no call throws, questions change nothing, the same calls give the same answers. */
public final class StormTest {
    private static final int RUNS = 400;
    private static final int CALLS = 512;
    private static final int[] EDGES = {0, 1, -1, 2, 3, 5, 6, 7, 8, 9, 14, 15, 16, 20, 21, 60, 61, 100, 101, 255, 256, 400,
        401, 999, 1000, 1000000, 1000001, Integer.MAX_VALUE, Integer.MIN_VALUE, Integer.MAX_VALUE - 1, -2, -7};
    private static final String[] BITS = {"lasts ", "likes ", "loses ", "bars ", "pull ", "snap ", "wed ", "pass ", " if ",
        " or ", " and ", " not ", "(", ")", "[", "]", "<", ">", "=", "+", "-", "*", "/", "%", ";", " times ", " at ",
        " of ", " to ", "box ", "spring ", "notes ", "year ", "done ", "left ", "couples ", "latest ", "ear ", "0", "1", "2",
        "7", "20", "1000", " ", "x", "\u00e9"};
    private static final List<String> QUESTIONS = Arrays.asList("of", "at", "asks", "rust", "fault", "stopped", "which",
        "listen", "steady", "about", "keep", "clash", "best", "filed", "shares", "again", "ends", "stands", "compare",
        "drawn", "count", "status");

    public static void main(String[] args) throws Exception {
        List<Method> methods = new ArrayList<>();
        for (Method method : DowryBoxes.class.getDeclaredMethods()) {
            if (Modifier.isPublic(method.getModifiers())) {
                methods.add(method);
            }
        }
        methods.sort(Comparator.comparing(Method::getName));
        for (int run = 0; run < RUNS; run++) {
            storm(methods, run);
        }
        longestTexts();
        System.out.println(RUNS + " storms are over");
    }

    private static void storm(List<Method> methods, int run) throws Exception {
        Random random = new Random(run);
        DowryBoxes x = new DowryBoxes();
        DowryBoxes y = new DowryBoxes();
        int wild = run % 4;
        for (int i = 0; i < CALLS; i++) {
            Method method = methods.get(random.nextInt(methods.size()));
            Object[] a = new Object[method.getParameterCount()];
            for (int j = 0; j < a.length; j++) {
                a[j] = random.nextInt(4) < wild ? EDGES[random.nextInt(EDGES.length)] : Integer.valueOf(random.nextInt(7));
            }
            if (method.getName().equals("feed")) {
                a = someText(random);
            }
            Object one = method.invoke(x, a);
            Object other = method.invoke(y, a);
            if (!one.equals(other)) {
                fail(run, method, a, "answered " + one + ", then " + other);
            }
            if (QUESTIONS.contains(method.getName()) && !one.equals(method.invoke(x, a))) {
                fail(run, method, a, "is no question: the second answer is another");
            }
        }
    }

    private static Object[] someText(Random random) {
        StringBuilder b = new StringBuilder();
        while (b.length() < 20) {
            b.append(BITS[random.nextInt(BITS.length)]);
        }
        Object[] a = new Object[5];
        for (int i = 0; i < 5; i++) {
            a[i] = b.charAt(4 * i) << 24 | b.charAt(4 * i + 1) << 16 | b.charAt(4 * i + 2) << 8 | b.charAt(4 * i + 3);
        }
        return a;
    }

    /** Texts of 400 bytes of one piece each, which go as deep and as far as a text can. */
    private static void longestTexts() {
        String[] heads = {"", "bars if ", "lasts ", "pass if ", "wed 1 to ", "pull "};
        for (String head : heads) {
            for (String bit : BITS) {
                DowryBoxes x = new DowryBoxes();
                DowryBoxes y = new DowryBoxes();
                String text = head + bit.repeat(400);
                for (int i = 0; i < 400; i += 20) {
                    int[] n = new int[5];
                    for (int j = 0; j < 20; j++) {
                        n[j / 4] = n[j / 4] << 8 | text.charAt(i + j);
                    }
                    x.feed(n[0], n[1], n[2], n[3], n[4]);
                    y.feed(n[0], n[1], n[2], n[3], n[4]);
                }
                x.law();
                y.orders();
                if (x.fault() > 400 || y.fault() > 400 || x.count(6) != 0 || y.count(6) != 0) {
                    System.out.println("wrong behind 400 bytes of \"" + head + bit + "\"");
                    System.exit(1);
                }
            }
        }
    }

    private static void fail(int run, Method method, Object[] a, String what) {
        System.out.println("storm " + run + ": " + method.getName() + Arrays.toString(a) + " " + what);
        System.exit(1);
    }
}
