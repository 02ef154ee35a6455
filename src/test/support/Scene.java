import java.lang.reflect.InvocationTargetException;
import java.lang.reflect.Method;
import java.util.ArrayList;
import java.util.HashMap;
import java.util.LinkedHashMap;
import java.util.List;
import java.util.Map;

/**
 * One object under test and every call that it got, so that other objects can be brought to where it stands and asked
 * there: what a call changed is told without going beyond the 512 calls that the document allows an object.
 *
 * A call is written as in Java, "box(5)". Four short ones stand for a tape and what is made of it: "law bars",
 * "orders pass;pass", "row 0 1 255" (bytes), "tape bars" (the tape alone).
 */
final class Scene {
    private static final int MOST_CALLS = 512;
    private static final Map<String, Method> METHODS = new HashMap<>();
    private static final List<Step> LOOKS = new ArrayList<>();
    private static final List<Step> BACKWARDS = new ArrayList<>();

    static {
        for (Method method : DowryBoxes.class.getDeclaredMethods()) {
            METHODS.put(method.getName(), method);
        }
        fillLooks();
        for (int i = 0; i < 17; i++) {
            BACKWARDS.addAll(steps("undo()"));
            for (String look : new String[] {"count(2)", "count(5)", "count(13)", "of(0, 0)", "of(0, 1)", "of(0, 2)",
                "of(0, 3)", "of(0, 4)", "of(0, 7)", "of(1, 0)", "of(1, 1)", "of(1, 2)", "of(1, 4)"}) {
                BACKWARDS.addAll(steps(look));
            }
        }
    }

    private final DowryBoxes x = new DowryBoxes();
    private final List<Step> run = new ArrayList<>();

    Scene(String... calls) {
        does(calls);
    }

    /**
     * A scene where there is some of all: a couple, laws, things heard, image 0, deeds to undo, a FAULT (7), a stop (1),
     * RUST (1), generations, a tape (9 bytes); image 1 is not kept, and each of -1, -3, -6 was counted.
     */
    static Scene ofAll() {
        return new Scene("box(9)", "box(4)", "box(0)", "pins(0, 0, 5)", "pins(0, 1, 3)", "pins(1, 0, 6)",
            "pins(1, 7, 129)", "pins(2, 3, 255)", "suitor(0, 5)", "suitor(2, 12)", "suitor(7, 60)",
            "law lasts spring+notes/2;likes ear*3+1;loses 1+broken;bars if box=2 and suitor=0", "law lasts 7",
            "hear(0, 2, 1)", "row 0 2 9 7 7 7", "image(0)", "force(0)", "generations(11, 5)",
            "orders snap 3 of 0;snap 3 of 0", "law bars if", "box(21)", "pull(0, 0, 0)", "snap(1, 1)", "wed(0, 1)",
            "pass()", "tape bars;bars");
    }

    /** All that questions tell of an object, but for the refusals. */
    private static void fillLooks() {
        StringBuilder b = new StringBuilder();
        for (int what = 0; what <= 15; what++) {
            b.append(what < 7 || what > 11 ? "count(" + what + ")\n" : "");
        }
        b.append("rust()\nfault()\nstopped()\nwhich()\nlisten(0)\nlisten(1)\nabout(3, 0)\nabout(3, 1)\nshares(2, 0)\n");
        for (int box = 0; box < 6; box++) {
            for (int what = 0; what < 15; what++) {
                b.append("of(" + box + ", " + what + ")\n");
            }
            for (int what = 0; what < 3; what++) {
                b.append("drawn(" + box + ", " + what + ")\n");
                b.append("at(" + box + ", " + what + ")\n");
                for (int suitor = 0; suitor < 6; suitor++) {
                    b.append("asks(" + box + ", " + suitor + ", " + what + ")\n");
                }
            }
            b.append("steady(" + box + ")\nabout(3, " + (2 + box) + ")\nshares(2, " + (1 + box) + ")\n");
            b.append("again(" + box + ", -1)\nends(" + box + ")\nstands(" + box + ", 7)\ncompare(" + (box - 1) + ")\n");
            b.append("clash(0, " + box + ", 1)\n");
        }
        b.append("best(0, 1, 0)\nfiled(0, 1, 0, 1)\nkeep(0, 2, -1)\n");
        for (String look : b.toString().split("\n")) {
            LOOKS.addAll(steps(look));
        }
    }

    void does(String... calls) {
        for (String call : calls) {
            make(call);
        }
    }

    /** The call's answer; a short one's is that of its last call. */
    long make(String call) {
        long answer = 0;
        for (Step step : steps(call)) {
            run.add(step);
            answer = step.on(x);
        }
        if (run.size() > MOST_CALLS) {
            Sentences.wrong(call + " is beyond the calls that an object is made for");
        }
        return answer;
    }

    void due(String call, long want) {
        long got = make(call);
        if (got != want) {
            Sentences.wrong(call + " answered " + got + ", due is " + want);
        }
    }

    /** For calls one behind the other: "box(1)", 0, "box(2)", 1. */
    void due(String call, long want, Object... more) {
        due(call, want);
        for (int i = 0; i + 1 < more.length; i += 2) {
            due((String) more[i], ((Number) more[i + 1]).longValue());
        }
    }

    /** A question that has no answer: NONE, and nothing is changed or counted. */
    void none(String... calls) {
        for (String call : calls) {
            stays(call, -1);
        }
    }

    /** A call that answers as told, and changes nothing, not even what is counted as REFUSED. */
    void stays(String call, long want) {
        Map<String, Long> ahead = looks();
        long[] counts = refusals();
        due(call, want);
        compare(call, ahead, looks());
        long[] behind = refusals();
        for (int i = 0; i < counts.length; i++) {
            if (counts[i] != behind[i]) {
                Sentences.wrong(call + ", which can't be REFUSED, changes " + name(i) + " to " + behind[i]);
            }
        }
    }

    /**
     * A call that is REFUSED: it answers why, status() tells it, it is counted once and there alone, and it changes nothing
     * but what is told, as "fault() 5".
     */
    void refuses(String call, long why, String... changes) {
        Map<String, Long> ahead = looks();
        long[] counts = refusals();
        due(call, why);
        Map<String, Long> behind = looks();
        for (String change : changes) {
            int blank = change.lastIndexOf(' ');
            String look = change.substring(0, blank);
            long want = Long.parseLong(change.substring(blank + 1));
            Long got = behind.get(look);
            leaveOut(look, ahead);
            if (got == null || got != want) {
                Sentences.wrong(look + " behind " + call + " answered " + got + ", due is " + want);
            }
        }
        compare(call, ahead, behind);
        long[] now = refusals();
        for (int i = 0; i < now.length; i++) {
            long want = i == 5 ? why : counts[i] + (i == place(why) ? 1 : 0);
            if (now[i] != want) {
                Sentences.wrong(name(i) + " behind " + call + " answered " + now[i] + ", due is " + want);
            }
        }
    }

    /** What a change that is due is seen by; the tape's is seen by all that is made of it. */
    private static void leaveOut(String look, Map<String, Long> ahead) {
        ahead.keySet().removeIf(key -> key.equals(look) || key.endsWith(" " + look));
        if (look.equals("count(6)")) {
            ahead.keySet().removeIf(key -> key.startsWith("row ") || key.startsWith("law ") || key.startsWith("orders "));
        }
    }

    private static int place(long why) {
        return why == -5 ? 3 : why == -6 ? 4 : (int) -why - 1;
    }

    private static String name(int i) {
        return i == 5 ? "status()" : "count(" + (7 + i) + ")";
    }

    /** count(7) to count(11), status(). */
    private long[] refusals() {
        DowryBoxes y = another();
        return new long[] {y.count(7), y.count(8), y.count(9), y.count(10), y.count(11), y.status()};
    }

    private void compare(String call, Map<String, Long> ahead, Map<String, Long> behind) {
        for (Map.Entry<String, Long> look : ahead.entrySet()) {
            if (!look.getValue().equals(behind.get(look.getKey()))) {
                Sentences.wrong(call + " changes " + look.getKey() + " from " + look.getValue() + " to "
                    + behind.get(look.getKey()));
            }
        }
    }

    private DowryBoxes another() {
        DowryBoxes y = new DowryBoxes();
        for (Step step : run) {
            step.on(y);
        }
        return y;
    }

    /** Each row of looks by an object of its own: as it stands, gone backwards, gone back to images, and the tape's. */
    private Map<String, Long> looks() {
        Map<String, Long> seen = new LinkedHashMap<>();
        look("", LOOKS, seen);
        look("undone ", BACKWARDS, seen);
        for (int k = 0; k < 2; k++) {
            List<Step> row = new ArrayList<>(steps("back(" + k + ")"));
            row.addAll(LOOKS.subList(0, 120));
            look("back " + k + " ", row, seen);
        }
        look("row ", steps("row()", "rust()", "of(0, 7)", "of(0, 8)", "of(1, 14)"), seen);
        look("law ", steps("law()", "fault()", "count(4)"), seen);
        look("orders ", steps("orders()", "fault()", "stopped()", "count(13)"), seen);
        return seen;
    }

    private void look(String kind, List<Step> row, Map<String, Long> seen) {
        boolean questions = kind.isEmpty();
        DowryBoxes y = another();
        int used = run.size();
        for (int i = 0; i < row.size(); i++) {
            if (used >= MOST_CALLS) {
                if (!questions) {
                    return;
                }
                y = another();
                used = run.size();
            }
            // A row that is no questions has the same looks again and again.
            seen.put(questions ? row.get(i).text : kind + i + " " + row.get(i).text, row.get(i).on(y));
            used++;
        }
    }

    private static List<Step> steps(String... calls) {
        List<Step> all = new ArrayList<>();
        for (String call : calls) {
            int blank = call.indexOf(' ');
            String head = blank < 0 ? call : call.substring(0, blank);
            switch (head) {
                case "law": case "orders": case "tape": addTape(all, latin(call.substring(blank + 1))); break;
                case "row": addTape(all, bytes(call.substring(blank + 1))); break;
                default: all.add(new Step(call)); continue;
            }
            if (!head.equals("tape")) {
                all.add(new Step(head + "()"));
            }
        }
        return all;
    }

    private static void addTape(List<Step> all, int[] bytes) {
        all.add(new Step("end(0)"));
        for (int i = 0; i < bytes.length; i += 20) {
            int[] n = new int[5];
            for (int j = 0; j < 20; j++) {
                n[j / 4] = n[j / 4] << 8 | (i + j < bytes.length ? bytes[i + j] : ' ');
            }
            all.add(new Step("feed(" + n[0] + ", " + n[1] + ", " + n[2] + ", " + n[3] + ", " + n[4] + ")"));
        }
        all.add(new Step("end(" + bytes.length + ")"));
    }

    private static int[] latin(String text) {
        return text.chars().toArray();
    }

    private static int[] bytes(String numbers) {
        String[] all = numbers.trim().split(" +");
        int[] bytes = new int[all.length];
        for (int i = 0; i < all.length; i++) {
            bytes[i] = Integer.parseInt(all[i]);
        }
        return bytes;
    }

    /** One call with its numbers. */
    private static final class Step {
        final String text;
        private final Method method;
        private final Object[] numbers;

        Step(String text) {
            this.text = text;
            int open = text.indexOf('(');
            String inside = text.substring(open + 1, text.length() - 1).trim();
            method = METHODS.get(text.substring(0, open));
            String[] all = inside.isEmpty() ? new String[0] : inside.split(", *");
            numbers = new Object[all.length];
            for (int i = 0; i < all.length; i++) {
                numbers[i] = number(all[i]);
            }
        }

        private static int number(String written) {
            switch (written) {
                case "MIN": return Integer.MIN_VALUE;
                case "MAX": return Integer.MAX_VALUE;
                default: return Integer.parseInt(written);
            }
        }

        long on(DowryBoxes y) {
            try {
                return ((Number) method.invoke(y, numbers)).longValue();
            } catch (InvocationTargetException thrown) {
                Sentences.wrong(text + " throws " + thrown.getCause());
                return Long.MIN_VALUE;
            } catch (IllegalAccessException never) {
                throw new IllegalStateException(never);
            }
        }
    }
}
