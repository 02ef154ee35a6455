import java.util.ArrayList;
import java.util.Arrays;
import java.util.Collections;
import java.util.HashMap;
import java.util.LinkedHashSet;
import java.util.List;
import java.util.Map;
import java.util.Random;
import java.util.Set;
import java.util.TreeMap;

/**
 * Long runs of drawn calls, each answer compared with that of a slow model. The model was written from the document in
 * other ways than the class: FAULTS by an Earley recognizer, SUMS by splitting rows of tokens, the puzzles by trying all.
 */
public final class ModelTest {
    private static final int RUNS = 400;
    private static final int CALLS = 512;

    public static void main(String[] args) {
        int runs = args.length > 0 ? Integer.parseInt(args[0]) : RUNS;
        int wrong = 0;
        Map<String, int[]> seen = new TreeMap<>();
        for (int run = 0; run < runs && wrong < 5; run++) {
            if (!agrees(run, seen)) {
                wrong++;
            }
        }
        if (args.length > 0) {
            seen.forEach((name, n) -> System.out.println(name + " " + n[0] + " calls, " + n[1] + " below 0"));
        }
        if (wrong != 0) {
            System.exit(1);
        }
        System.out.println(runs + " runs agree with the model");
    }

    private static boolean agrees(int run, Map<String, int[]> seen) {
        Caller caller = new Caller(new Random(run * 7919L + 17), run);
        DowryBoxes real = new DowryBoxes();
        Model model = new Model();
        List<String> told = new ArrayList<>();
        for (int i = 0; i < CALLS; i++) {
            Call call = caller.next(model);
            long got = call.on(real);
            long want = call.on(model);
            told.add(call + " = " + got);
            int[] n = seen.computeIfAbsent(call.name, k -> new int[2]);
            n[0]++;
            n[1] += want < 0 ? 1 : 0;
            if (got != want) {
                System.out.println("run " + run + ", call " + i + ": " + call + " answered " + got + ", the model " + want);
                System.out.println("  tape was " + new String(Caller.chars(model.lastText)));
                for (String line : told.subList(Math.max(0, told.size() - 12), told.size())) {
                    System.out.println("    " + line);
                }
                return false;
            }
        }
        return true;
    }
}

/** A call by name, to be made on the class and on the model. */
final class Call {
    final String name;
    final int[] a;

    Call(String name, int... a) {
        this.name = name;
        this.a = a;
    }

    @Override
    public String toString() {
        return name + Arrays.toString(a);
    }

    long on(DowryBoxes x) {
        switch (name) {
            case "box": return x.box(a[0]);
            case "of": return x.of(a[0], a[1]);
            case "pins": return x.pins(a[0], a[1], a[2]);
            case "suitor": return x.suitor(a[0], a[1]);
            case "at": return x.at(a[0], a[1]);
            case "asks": return x.asks(a[0], a[1], a[2]);
            case "terms": return x.terms(a[0], a[1]);
            case "feed": return x.feed(a[0], a[1], a[2], a[3], a[4]);
            case "end": return x.end(a[0]);
            case "row": return x.row();
            case "rust": return x.rust();
            case "law": return x.law();
            case "orders": return x.orders();
            case "fault": return x.fault();
            case "stopped": return x.stopped();
            case "force": return x.force(a[0]);
            case "pull": return x.pull(a[0], a[1], a[2]);
            case "snap": return x.snap(a[0], a[1]);
            case "wed": return x.wed(a[0], a[1]);
            case "pass": return x.pass();
            case "undo": return x.undo();
            case "hear": return x.hear(a[0], a[1], a[2]);
            case "forget": return x.forget();
            case "which": return x.which();
            case "listen": return x.listen(a[0]);
            case "steady": return x.steady(a[0]);
            case "about": return x.about(a[0], a[1]);
            case "keep": return x.keep(a[0], a[1], a[2]);
            case "clash": return x.clash(a[0], a[1], a[2]);
            case "best": return x.best(a[0], a[1], a[2]);
            case "filed": return x.filed(a[0], a[1], a[2], a[3]);
            case "shares": return x.shares(a[0], a[1]);
            case "again": return x.again(a[0], a[1]);
            case "ends": return x.ends(a[0]);
            case "stands": return x.stands(a[0], a[1]);
            case "compare": return x.compare(a[0]);
            case "generations": return x.generations(a[0], a[1]);
            case "drawn": return x.drawn(a[0], a[1]);
            case "image": return x.image(a[0]);
            case "back": return x.back(a[0]);
            case "count": return x.count(a[0]);
            case "status": return x.status();
            default: throw new IllegalStateException(name);
        }
    }

    long on(Model m) {
        switch (name) {
            case "box": return m.tell(m.box(a[0]));
            case "pins": return m.tell(m.pins(a[0], a[1], a[2]));
            case "suitor": return m.tell(m.suitor(a[0], a[1]));
            case "terms": return m.tell(m.terms(a[0], a[1]));
            case "row": return m.tell(m.row());
            case "law": return m.tell(m.law());
            case "orders": return m.tell(m.orders());
            case "force": return m.force(a[0]);
            case "pull": return m.tell(m.pull(a[0], a[1], a[2]));
            case "snap": return m.tell(m.snap(a[0], a[1]));
            case "wed": return m.tell(m.wed(a[0], a[1]));
            case "pass": return m.tell(m.pass());
            case "undo": return m.tell(m.undo());
            case "hear": return m.tell(m.hear(a[0], a[1], a[2]));
            case "generations": return m.tell(m.generations(a[0], a[1]));
            case "image": return m.tell(m.image(a[0]));
            case "back": return m.tell(m.back(a[0]));
            case "of": return m.of(a[0], a[1]);
            case "at": return m.at(a[0], a[1]);
            case "asks": return m.asks(a[0], a[1], a[2]);
            case "feed": return m.feed(a);
            case "end": return m.end(a[0]);
            case "rust": return m.rust;
            case "fault": return m.fault;
            case "stopped": return m.stopped;
            case "forget": return m.forget();
            case "which": return m.which();
            case "listen": return m.listen(a[0]);
            case "steady": return m.steady(a[0]);
            case "about": return m.about(a[0], a[1]);
            case "keep": return m.keep(a[0], a[1], a[2]);
            case "clash": return m.clash(a[0], a[1], a[2]);
            case "best": return m.best(a[0], a[1], a[2]);
            case "filed": return m.filed(a[0], a[1], a[2], a[3]);
            case "shares": return m.shares(a[0], a[1]);
            case "again": return m.again(a[0], a[1]);
            case "ends": return m.ends(a[0]);
            case "stands": return m.stands(a[0], a[1]);
            case "compare": return m.compare(a[0]);
            case "drawn": return m.drawn(a[0], a[1]);
            case "count": return m.count(a[0]);
            case "status": return m.status;
            default: throw new IllegalStateException(name);
        }
    }
}

/** Draws calls: mostly ones that can be, some that can't, and whole texts over the tape. */
final class Caller {
    private final Random random;
    private final boolean many;
    private final List<Call> waiting = new ArrayList<>();

    Caller(Random random, int run) {
        this.random = random;
        this.many = run % 2 == 0;
    }

    static char[] chars(List<Integer> bytes) {
        char[] c = new char[bytes.size()];
        for (int i = 0; i < c.length; i++) {
            c[i] = (char) (int) bytes.get(i);
        }
        return c;
    }

    private int below(int n) {
        return random.nextInt(n);
    }

    private boolean seldom() {
        return below(16) == 0;
    }

    private int number(int least, int most) {
        if (seldom()) {
            int[] odd = {least - 1, most + 1, Integer.MIN_VALUE, Integer.MAX_VALUE, -1, least, most};
            return odd[below(odd.length)];
        }
        return least + below(most - least + 1);
    }

    private int aBox(Model m) {
        int boxes = m.s.boxes.size();
        return boxes == 0 || seldom() ? number(-2, 7) : below(boxes);
    }

    private int aSuitor(Model m) {
        int suitors = m.s.suitors.size();
        return suitors == 0 || seldom() ? number(-2, 7) : below(suitors);
    }

    private int teeth() {
        int set = below(256);
        return seldom() ? number(0, 255) : below(2) == 0 ? set & below(256) : set;
    }

    Call next(Model m) {
        if (!waiting.isEmpty()) {
            return waiting.remove(0);
        }
        if (m.s.boxes.size() < (many ? 4 : 2) && below(3) > 0) {
            return new Call("box", number(0, 20));
        }
        if (m.s.suitors.size() < (many ? 4 : 2) && below(3) > 0) {
            return new Call("suitor", number(0, 7), number(0, many ? 30 : 60));
        }
        int kind = below(100);
        if (kind < 22) {
            return question(m);
        }
        if (kind < 40) {
            return puzzle(m);
        }
        if (kind < 62) {
            return deed(m);
        }
        if (kind < 78) {
            return setting(m);
        }
        if (kind < 86) {
            return aText(m, "law");
        }
        if (kind < 95) {
            return aText(m, "orders");
        }
        return aRow(m);
    }

    private Call question(Model m) {
        switch (below(12)) {
            case 0: case 1: return new Call("of", aBox(m), number(0, 14));
            case 2: return new Call("at", aSuitor(m), number(0, 2));
            case 3: case 4: return new Call("asks", aBox(m), aSuitor(m), number(0, 2));
            case 5: return new Call("rust");
            case 6: return new Call("fault");
            case 7: return new Call("stopped");
            case 8: case 9: return new Call("count", number(0, 15));
            case 10: return new Call("status");
            default: return new Call("drawn", aBox(m), number(0, 2));
        }
    }

    private Call puzzle(Model m) {
        switch (below(16)) {
            case 0: return new Call("which");
            case 1: return new Call("listen", number(0, 1));
            case 2: case 3: return new Call("steady", aBox(m));
            case 4: case 5: return new Call("about", number(0, below(2) == 0 ? 10 : 60), number(0, 7));
            case 6: return new Call("keep", aBox(m), number(0, 8), number(-1, 7));
            case 7: return new Call("clash", aBox(m), aBox(m), number(0, 7));
            case 8: return new Call("best", aBox(m), aBox(m), number(0, 1));
            case 9: return new Call("filed", aBox(m), aBox(m), number(0, 7), number(0, 2));
            case 10: return new Call("shares", number(1, 3), number(0, 6));
            case 11: return new Call("again", aBox(m), number(-1, 5));
            case 12: return new Call("ends", number(0, below(2) == 0 ? 12 : 60));
            case 13: return new Call("stands", aBox(m), number(0, 60));
            case 14: return new Call("compare", number(-1, 5));
            default: return new Call("generations", number(0, 1000000), number(1, 60));
        }
    }

    private Call deed(Model m) {
        switch (below(8)) {
            case 0: return new Call("pull", number(0, 7), number(0, 7), aBox(m));
            case 1: return new Call("snap", number(0, 7), aBox(m));
            case 2: case 3: return new Call("wed", aBox(m), aSuitor(m));
            case 4: case 5: return new Call("pass");
            default: return new Call("undo");
        }
    }

    private Call setting(Model m) {
        switch (below(14)) {
            case 0: return new Call("box", number(0, 20));
            case 1: case 2: case 3: return new Call("pins", aBox(m), number(0, 7), teeth());
            case 4: return new Call("suitor", number(0, 7), number(0, 60));
            case 5:
                int what = number(0, 2);
                return new Call("terms", what, number(0, what == 0 ? 999 : what == 1 ? 10 : 9));
            case 6: return new Call("terms", 0, 990 + below(10));
            case 7: case 8: return new Call("hear", number(0, 7), number(0, 7), number(0, 1));
            case 9: return new Call("forget");
            case 10: case 11: return new Call("force", below(3) == 0 ? number(-1, 6) : m.s.laws.size() - 1);
            case 12: return new Call("image", number(0, 1));
            default: return new Call("back", number(0, 1));
        }
    }

    private Call aRow(Model m) {
        int n = below(14);
        byte[] bytes = new byte[n];
        for (int i = 0; i < n; i++) {
            bytes[i] = (byte) (i % 3 == 0 ? below(5) : i % 3 == 1 ? below(9) : below(256));
        }
        tape(m, bytes, "row");
        return waiting.remove(0);
    }

    private Call aText(Model m, String what) {
        String text = what.equals("law") ? laws() : orders();
        StringBuilder b = new StringBuilder(text);
        for (int i = 0; i < (below(4) == 0 ? 1 + below(3) : 0) && b.length() > 0; i++) {
            int place = below(b.length());
            String bits = " ;()[]+-*/%<>=0159atofxisB" + (char) 200;
            switch (below(4)) {
                case 0: b.deleteCharAt(place); break;
                case 1: b.insert(place, bits.charAt(below(bits.length()))); break;
                case 2: b.setLength(place); break;
                default: b.setCharAt(place, bits.charAt(below(bits.length()))); break;
            }
        }
        if (b.length() > 400) {
            b.setLength(400);
        }
        tape(m, b.toString().getBytes(java.nio.charset.StandardCharsets.ISO_8859_1), what);
        return waiting.remove(0);
    }

    private void tape(Model m, byte[] bytes, String then) {
        if (!m.tape.isEmpty() && below(4) > 0) {
            waiting.add(new Call("end", 0));
        }
        for (int i = 0; i < bytes.length; i += 20) {
            int[] n = new int[5];
            for (int j = 0; j < 20; j++) {
                n[j / 4] = n[j / 4] << 8 | (i + j < bytes.length ? bytes[i + j] & 255 : below(256));
            }
            waiting.add(new Call("feed", n));
        }
        waiting.add(new Call("end", seldom() ? number(0, 400) : bytes.length));
        if (!seldom()) {
            waiting.add(new Call(then));
            if (then.equals("law") && below(2) == 0) {
                waiting.add(new Call("force", m.s.laws.size()));
            }
        }
    }

    private boolean ofLaw;
    private int budget;

    private String laws() {
        ofLaw = true;
        StringBuilder b = new StringBuilder();
        budget = below(60);
        int clauses = seldom() ? 11 + below(4) : 1 + below(5);
        for (int i = 0; i < clauses; i++) {
            b.append(i > 0 ? ";" : "");
            int kind = below(4);
            b.append(new String[] {"lasts ", "likes ", "loses ", "bars "}[kind]);
            if (kind < 3) {
                b.append(sum(2));
            }
            if (kind == 3 ? below(6) > 0 : below(2) == 0) {
                b.append(" if ").append(test(2));
            }
        }
        return b.toString();
    }

    private String orders() {
        ofLaw = false;
        StringBuilder b = new StringBuilder();
        budget = below(60);
        int clauses = seldom() ? 11 + below(4) : 1 + below(4);
        for (int i = 0; i < clauses; i++) {
            b.append(i > 0 ? "; " : "");
            switch (below(5)) {
                case 0: b.append("pull ").append(low(8)).append(" at ").append(low(8)).append(" of ").append(low(4)); break;
                case 1: b.append("snap ").append(low(8)).append(" of ").append(low(4)); break;
                case 2: b.append("wed ").append(low(4)).append(" to ").append(low(4)); break;
                default: b.append("pass"); break;
            }
            if (below(3) == 0) {
                b.append(" times ").append(seldom() ? below(25) : 1 + below(3));
            }
            if (below(2) == 0) {
                b.append(" if ").append(test(2));
            }
        }
        return b.toString();
    }

    private String low(int n) {
        if (below(3) > 0) {
            return "" + below(n);
        }
        return below(2) == 0 ? "[" + sum(1) + "]%" + n : sum(1);
    }

    private String test(int deep) {
        switch (deep <= 0 ? 9 : below(10)) {
            case 0: return test(deep - 1) + " or " + test(deep - 1);
            case 1: return test(deep - 1) + " and " + test(deep - 1);
            case 2: return "not " + test(deep - 1);
            case 3: return "(" + test(deep - 1) + ")";
            case 4: return "(".repeat(below(seldom() ? 10 : 3)) + test(deep - 1);
            default: return sum(1) + new String[] {"<", ">", "=", " < "}[below(4)] + sum(1);
        }
    }

    private String sum(int deep) {
        budget--;
        int kind = deep <= 0 ? below(8) : below(16);
        if (kind < 4 || budget < 0) {
            return "" + (below(4) == 0 ? below(1100) : below(12));
        }
        if (kind < 8) {
            return word();
        }
        if (kind == 8) {
            return "[" + sum(deep - 1) + "]";
        }
        if (kind == 9 && seldom()) {
            int n = 7 + below(3);
            return "[".repeat(n) + sum(deep - 1) + "]".repeat(n);
        }
        String[] joins = {"+", "-", "*", "/", "%", " + ", " * "};
        return sum(deep - 1) + joins[below(joins.length)] + sum(deep - 1);
    }

    private String word() {
        String[] ofLaws = {"box", "spring", "notes", "broken", "suitor", "ear", "wants", "year", "mood"};
        if (ofLaw != seldom()) {
            return ofLaws[below(ofLaws.length)] + (seldom() ? " 1" : "");
        }
        String[] ofOrders = {"year", "done", "latest", "couples", "left ", "notes "};
        int n = below(ofOrders.length);
        return ofOrders[n] + (n > 3 ? "" + below(seldom() ? 8 : 5) : "");
    }
}

/** A BOX of the model: each BAR a set of teeth. */
final class ModelBox {
    boolean[][] pin = new boolean[8][8];
    boolean[] broken = new boolean[8];
    int spring;
    int suitor = -1;
    int left;

    ModelBox copy() {
        ModelBox c = new ModelBox();
        for (int b = 0; b < 8; b++) {
            c.pin[b] = pin[b].clone();
        }
        c.broken = broken.clone();
        c.spring = spring;
        c.suitor = suitor;
        c.left = left;
        return c;
    }

    boolean note(int bar, int tooth) {
        return pin[bar][tooth] && !broken[tooth];
    }

    int notes() {
        int n = 0;
        for (int b = 0; b < 8; b++) {
            for (int t = 0; t < 8; t++) {
                n += note(b, t) ? 1 : 0;
            }
        }
        return n;
    }

    int set(int bar) {
        return bits(pin[bar]);
    }

    static int bits(boolean[] set) {
        int n = 0;
        for (int i = 0; i < set.length; i++) {
            n += set[i] ? 1 << i : 0;
        }
        return n;
    }
}

/** All that an image keeps. */
final class ModelState {
    List<ModelBox> boxes = new ArrayList<>();
    List<int[]> suitors = new ArrayList<>();
    List<int[]> heard = new ArrayList<>();
    List<List<List<String>>> laws = new ArrayList<>();
    int force = -1;
    int[] terms = {0, 2, 0};

    ModelState copy() {
        ModelState c = new ModelState();
        for (ModelBox b : boxes) {
            c.boxes.add(b.copy());
        }
        c.suitors.addAll(suitors);
        c.heard.addAll(heard);
        c.laws.addAll(laws);
        c.force = force;
        c.terms = terms.clone();
        return c;
    }
}

final class Broken extends Exception {
    private static final long serialVersionUID = 1L;
}

/** Tokens and whether and where a text is at FAULT. */
final class Texts {
    static final class Tokens {
        List<String> tokens = new ArrayList<>();
        List<Integer> places = new ArrayList<>();
    }

    static Tokens tokens(List<Integer> bytes) {
        Tokens t = new Tokens();
        int i = 0;
        while (i < bytes.size()) {
            int j = i;
            while (j < bytes.size() && bytes.get(j) >= 'a' && bytes.get(j) <= 'z') {
                j++;
            }
            if (j == i) {
                while (j < bytes.size() && bytes.get(j) >= '0' && bytes.get(j) <= '9') {
                    j++;
                }
            }
            if (j == i) {
                j++;
            }
            if (bytes.get(i) != 32) {
                t.tokens.add(new String(Caller.chars(bytes.subList(i, j))));
                t.places.add(i);
            }
            i = j;
        }
        t.places.add(bytes.size());
        return t;
    }

    private static final Map<String, String[][]> LAWS = grammar(true);
    private static final Map<String, String[][]> ORDERS = grammar(false);

    private static Map<String, String[][]> grammar(boolean law) {
        Map<String, String[][]> g = new HashMap<>();
        rule(g, "TEXT", "CLAUSE|TEXT ; CLAUSE");
        if (law) {
            rule(g, "CLAUSE", "BODY|BODY if TEST");
            rule(g, "BODY", "lasts SUM|likes SUM|loses SUM|bars");
            rule(g, "WORD", "box|spring|notes|broken|suitor|ear|wants|year|mood");
        } else {
            rule(g, "CLAUSE", "BODY|BODY times #TIMES|BODY if TEST|BODY times #TIMES if TEST");
            rule(g, "BODY", "pull SUM at SUM of SUM|snap SUM of SUM|wed SUM to SUM|pass");
            rule(g, "WORD", "year|done|latest|couples|left #B|notes #B");
        }
        rule(g, "TEST", "BOTH|TEST or BOTH");
        rule(g, "BOTH", "PLAIN|BOTH and PLAIN");
        rule(g, "PLAIN", "not PLAIN|( TEST )|SUM < SUM|SUM > SUM|SUM = SUM");
        rule(g, "SUM", "TERM|SUM + TERM|SUM - TERM");
        rule(g, "TERM", "PART|TERM * PART|TERM / PART|TERM % PART");
        rule(g, "PART", "#NUMBER|[ SUM ]|WORD");
        return g;
    }

    private static void rule(Map<String, String[][]> g, String left, String rights) {
        String[] alternatives = rights.split("\\|");
        String[][] rows = new String[alternatives.length][];
        for (int i = 0; i < rows.length; i++) {
            rows[i] = alternatives[i].split(" ");
        }
        g.put(left, rows);
    }

    private static boolean is(String terminal, String token) {
        if (terminal.charAt(0) != '#') {
            return terminal.equals(token);
        }
        if (!Character.isDigit(token.charAt(0))) {
            return false;
        }
        java.math.BigInteger n = new java.math.BigInteger(token);
        int value = n.bitLength() > 20 ? 1 << 20 : n.intValue();
        switch (terminal) {
            case "#NUMBER": return value <= 1000;
            case "#B": return value <= 5;
            default: return value >= 1 && value <= 20;
        }
    }

    /** The token's number at which the text is at fault; -1 if it is not. */
    static int fault(Tokens t, boolean law) {
        int n = t.tokens.size();
        int grammar = earley(t.tokens, law ? LAWS : ORDERS);
        int limit = limits(t.tokens, law);
        if (limit >= 0 && (grammar < 0 || limit < grammar)) {
            return limit;
        }
        return Math.min(grammar, n);
    }

    /** Items are {left, row, dot, origin}; a set without items but complete ones of the text means a fault. */
    private static int earley(List<String> tokens, Map<String, String[][]> g) {
        List<Set<String>> done = new ArrayList<>();
        List<List<Object[]>> sets = new ArrayList<>();
        for (int i = 0; i <= tokens.size(); i++) {
            done.add(new LinkedHashSet<>());
            sets.add(new ArrayList<>());
        }
        for (String[] row : g.get("TEXT")) {
            add(done, sets, 0, "TEXT", row, 0, 0);
        }
        for (int i = 0; i <= tokens.size(); i++) {
            boolean whole = false;
            List<Object[]> set = sets.get(i);
            for (int k = 0; k < set.size(); k++) {
                Object[] item = set.get(k);
                String left = (String) item[0];
                String[] row = (String[]) item[1];
                int dot = (Integer) item[2];
                int origin = (Integer) item[3];
                if (dot == row.length) {
                    whole |= left.equals("TEXT") && origin == 0;
                    for (Object[] parent : new ArrayList<>(sets.get(origin))) {
                        String[] up = (String[]) parent[1];
                        int at = (Integer) parent[2];
                        if (at < up.length && up[at].equals(left)) {
                            add(done, sets, i, (String) parent[0], up, at + 1, (Integer) parent[3]);
                        }
                    }
                } else if (g.containsKey(row[dot])) {
                    for (String[] below : g.get(row[dot])) {
                        add(done, sets, i, row[dot], below, 0, i);
                    }
                } else if (i < tokens.size() && is(row[dot], tokens.get(i))) {
                    add(done, sets, i + 1, left, row, dot + 1, origin);
                }
            }
            if (i == tokens.size()) {
                return whole ? -1 : i;
            }
            if (sets.get(i + 1).isEmpty()) {
                return i;
            }
        }
        return -1;
    }

    private static void add(List<Set<String>> done, List<List<Object[]>> sets, int i, String left, String[] row, int dot,
        int origin) {
        if (done.get(i).add(left + String.join(" ", row) + "@" + dot + "@" + origin)) {
            sets.get(i).add(new Object[] {left, row, dot, origin});
        }
    }

    /** The first token that is beyond a limit, if all ahead of it is as the grammar wants. */
    private static int limits(List<String> tokens, boolean law) {
        List<String> words = Arrays.asList("box", "spring", "notes", "broken", "suitor", "ear", "wants", "year", "mood",
            "done", "latest", "couples", "left");
        int clauses = 1;
        int parts = 0;
        int deep = 0;
        for (int i = 0; i < tokens.size(); i++) {
            String token = tokens.get(i);
            String ahead = i > 0 ? tokens.get(i - 1) : "";
            boolean digits = Character.isDigit(token.charAt(0));
            boolean aside = !law && (ahead.equals("times") || ahead.equals("left") || ahead.equals("notes"));
            parts += digits && !aside || words.contains(token) ? 1 : 0;
            deep += token.equals("(") || token.equals("[") ? 1 : token.equals(")") || token.equals("]") ? -1 : 0;
            clauses += ahead.equals(";") ? 1 : 0;
            if (clauses > 12 || parts > 50 || deep > 8) {
                return i;
            }
        }
        return -1;
    }

    static List<List<String>> split(List<String> tokens, String at) {
        List<List<String>> rows = new ArrayList<>();
        List<String> row = new ArrayList<>();
        int deep = 0;
        for (String token : tokens) {
            deep += "([".contains(token) ? 1 : ")]".contains(token) ? -1 : 0;
            if (deep == 0 && token.equals(at)) {
                rows.add(row);
                row = new ArrayList<>();
            } else {
                row.add(token);
            }
        }
        rows.add(row);
        return rows;
    }

    static boolean test(List<String> t, Map<String, Integer> words) throws Broken {
        List<List<String>> ors = split(t, "or");
        for (List<String> or : ors) {
            boolean all = true;
            for (List<String> and : split(or, "and")) {
                if (!plain(and, words)) {
                    all = false;
                    break;
                }
            }
            if (all) {
                return true;
            }
        }
        return false;
    }

    private static boolean plain(List<String> t, Map<String, Integer> words) throws Broken {
        if (t.get(0).equals("not")) {
            return !plain(t.subList(1, t.size()), words);
        }
        if (t.get(0).equals("(")) {
            return test(t.subList(1, t.size() - 1), words);
        }
        for (String sign : new String[] {"<", ">", "="}) {
            List<List<String>> sides = split(t, sign);
            if (sides.size() == 2) {
                long a = sum(sides.get(0), words);
                long b = sum(sides.get(1), words);
                return sign.equals("<") ? a < b : sign.equals(">") ? a > b : a == b;
            }
        }
        throw new IllegalStateException(t.toString());
    }

    static long sum(List<String> t, Map<String, Integer> words) throws Broken {
        for (String signs : new String[] {"+-", "*/%"}) {
            int deep = 0;
            for (int i = t.size() - 1; i >= 0; i--) {
                String token = t.get(i);
                deep += token.equals("]") ? 1 : token.equals("[") ? -1 : 0;
                if (deep == 0 && signs.contains(token)) {
                    return joined(token.charAt(0), sum(t.subList(0, i), words), sum(t.subList(i + 1, t.size()), words));
                }
            }
        }
        if (t.get(0).equals("[")) {
            return sum(t.subList(1, t.size() - 1), words);
        }
        if (Character.isDigit(t.get(0).charAt(0))) {
            return Long.parseLong(t.get(0));
        }
        return words.get(t.size() == 1 ? t.get(0) : t.get(0) + Integer.parseInt(t.get(1)));
    }

    private static long joined(char sign, long a, long b) throws Broken {
        if ("/%".indexOf(sign) >= 0 && b == 0) {
            throw new Broken();
        }
        long c = sign == '+' ? a + b : sign == '-' ? a - b : sign == '*' ? a * b : sign == '/' ? a / b : a % b;
        if (Math.abs(c) > 1000000000L) {
            throw new Broken();
        }
        return c;
    }
}

/** The document's calls, plainly and slowly. */
final class Model {
    ModelState s = new ModelState();
    ModelState[] images = new ModelState[2];
    List<Object[]> history = new ArrayList<>();
    List<Integer> tape = new ArrayList<>();
    List<Integer> lastText = new ArrayList<>();
    int rust;
    int fault = -1;
    int stopped = -1;
    int status;
    Map<Integer, Integer> refused = new HashMap<>();
    List<ModelBox> drawn = new ArrayList<>();

    int tell(int answer) {
        status = Math.min(answer, 0);
        if (answer < 0) {
            refused.merge(answer, 1, Integer::sum);
        }
        return answer;
    }

    private boolean noBox(int b) {
        return b < 0 || b >= s.boxes.size();
    }

    private boolean noSuitor(int b) {
        return b < 0 || b >= s.suitors.size();
    }

    private static boolean out(int n, int most) {
        return n < 0 || n > most;
    }

    int box(int spring) {
        if (out(spring, 20)) {
            return -1;
        }
        if (s.boxes.size() == 6) {
            return -5;
        }
        ModelBox b = new ModelBox();
        b.spring = spring;
        s.boxes.add(b);
        history.clear();
        return s.boxes.size() - 1;
    }

    int pins(int box, int bar, int teeth) {
        if (out(bar, 7) || out(teeth, 255)) {
            return -1;
        }
        if (noBox(box)) {
            return -2;
        }
        history.clear();
        int was = s.boxes.get(box).set(bar);
        putPins(box, bar, teeth);
        return was;
    }

    private void putPins(int box, int bar, int teeth) {
        for (int t = 0; t < 8; t++) {
            s.boxes.get(box).pin[bar][t] = (teeth & 1 << t) != 0;
        }
    }

    int suitor(int ear, int wants) {
        if (out(ear, 7) || out(wants, 60)) {
            return -1;
        }
        if (s.suitors.size() == 6) {
            return -5;
        }
        history.clear();
        s.suitors.add(new int[] {ear, wants});
        return s.suitors.size() - 1;
    }

    int terms(int what, int value) {
        if (out(what, 2) || out(value, what == 0 ? 999 : what == 1 ? 10 : 9)) {
            return -1;
        }
        history.clear();
        int was = s.terms[what];
        s.terms[what] = value;
        return was;
    }

    int row() {
        if (tape.isEmpty()) {
            return -6;
        }
        history.clear();
        rust = 0;
        int told = 0;
        while (!tape.isEmpty()) {
            List<Integer> three = new ArrayList<>(tape.subList(0, Math.min(3, tape.size())));
            tape.subList(0, three.size()).clear();
            if (three.size() < 3 || noBox(three.get(0)) || three.get(1) > 7) {
                rust++;
            } else {
                putPins(three.get(0), three.get(1), three.get(2));
                told++;
            }
        }
        return told;
    }

    int feed(int[] a) {
        if (tape.size() > 380) {
            return -1;
        }
        for (int n : a) {
            for (byte b : java.nio.ByteBuffer.allocate(4).putInt(n).array()) {
                tape.add(b & 255);
            }
        }
        return tape.size();
    }

    int end(int n) {
        if (out(n, tape.size())) {
            return -1;
        }
        tape = new ArrayList<>(tape.subList(0, n));
        return n;
    }

    private List<String> read(boolean law) {
        lastText = tape;
        tape = new ArrayList<>();
        Texts.Tokens t = Texts.tokens(lastText);
        int at = Texts.fault(t, law);
        fault = at < 0 ? -1 : t.places.get(at);
        return at < 0 ? t.tokens : null;
    }

    int law() {
        if (s.laws.size() == 6) {
            tape = new ArrayList<>();
            return -5;
        }
        List<String> tokens = read(true);
        if (tokens == null) {
            return -6;
        }
        s.laws.add(Texts.split(tokens, ";"));
        return s.laws.size() - 1;
    }

    int force(int law) {
        if (law < -1 || law >= s.laws.size()) {
            return tell(-2);
        }
        int was = s.force;
        s.force = law;
        status = 0;
        return was;
    }

    private int bars(int box, int suitor) {
        int n = 0;
        for (int b = 0; b < 8; b++) {
            n += s.boxes.get(box).note(b, s.suitors.get(suitor)[0]) ? 1 : 0;
        }
        return n;
    }

    /** What a law tells, -1 if no clause holds. */
    private int told(ModelState of, int law, String kind, int box, int suitor, int most) {
        if (law < 0) {
            return -1;
        }
        ModelBox b = of.boxes.get(box);
        Map<String, Integer> words = new HashMap<>();
        int broken = 0;
        for (boolean t : b.broken) {
            broken += t ? 1 : 0;
        }
        words.put("box", box);
        words.put("spring", b.spring);
        words.put("notes", b.notes());
        words.put("broken", broken);
        words.put("suitor", suitor);
        words.put("ear", suitor < 0 ? -1 : bars(box, suitor));
        words.put("wants", suitor < 0 ? -1 : of.suitors.get(suitor)[1]);
        words.put("year", of.terms[0]);
        words.put("mood", of.terms[2]);
        long answer = -1;
        for (List<String> clause : of.laws.get(law)) {
            List<List<String>> sides = Texts.split(clause, "if");
            if (!clause.get(0).equals(kind)) {
                continue;
            }
            try {
                List<String> body = sides.get(0).subList(1, sides.get(0).size());
                boolean so = sides.size() == 1 || Texts.test(sides.get(1), words);
                long sum = body.isEmpty() ? 1 : Texts.sum(body, words);
                answer = so ? Math.max(0, Math.min(most, sum)) : answer;
            } catch (Broken e) {
                continue;
            }
        }
        return (int) answer;
    }

    private int lasts(ModelState of, int law, int box) {
        int told = told(of, law, "lasts", box, -1, 60);
        return told < 0 ? of.boxes.get(box).spring + of.boxes.get(box).notes() / 4 : told;
    }

    private int likes(int box, int suitor) {
        int told = told(s, s.force, "likes", box, suitor, 99);
        return told < 0 ? bars(box, suitor) : told;
    }

    private boolean barred(int box, int suitor) {
        return told(s, s.force, "bars", box, suitor, 1) == 1;
    }

    private int loses(ModelState of, int box) {
        return Math.max(0, told(of, of.force, "loses", box, -1, 9));
    }

    int of(int box, int what) {
        if (noBox(box) || out(what, 14)) {
            return -1;
        }
        ModelBox b = s.boxes.get(box);
        int[] first = {b.spring, b.notes(), ModelBox.bits(b.broken), b.suitor, b.left, lasts(s, s.force, box), loses(s, box)};
        return what < 7 ? first[what] : b.set(what - 7);
    }

    private int boxOf(int suitor) {
        for (int b = 0; b < s.boxes.size(); b++) {
            if (s.boxes.get(b).suitor == suitor) {
                return b;
            }
        }
        return -1;
    }

    int at(int suitor, int what) {
        if (noSuitor(suitor) || out(what, 2)) {
            return -1;
        }
        return what == 2 ? boxOf(suitor) : s.suitors.get(suitor)[what];
    }

    int asks(int box, int suitor, int what) {
        if (noBox(box) || noSuitor(suitor) || out(what, 2)) {
            return -1;
        }
        return what == 0 ? bars(box, suitor) : what == 1 ? likes(box, suitor) : barred(box, suitor) ? 1 : 0;
    }

    private void remember(int kind) {
        history.add(new Object[] {kind, s.copy()});
        if (history.size() > 16) {
            history.remove(0);
        }
    }

    int pull(int tooth, int bar, int box) {
        if (out(tooth, 7) || out(bar, 7)) {
            return -1;
        }
        if (noBox(box)) {
            return -2;
        }
        if (!s.boxes.get(box).pin[bar][tooth]) {
            return -3;
        }
        remember(0);
        s.boxes.get(box).pin[bar][tooth] = false;
        return s.boxes.get(box).notes();
    }

    int snap(int tooth, int box) {
        if (out(tooth, 7)) {
            return -1;
        }
        if (noBox(box)) {
            return -2;
        }
        if (s.boxes.get(box).broken[tooth]) {
            return -3;
        }
        remember(1);
        s.boxes.get(box).broken[tooth] = true;
        return s.boxes.get(box).notes();
    }

    int wed(int box, int suitor) {
        if (noBox(box) || noSuitor(suitor)) {
            return -2;
        }
        int lasts = lasts(s, s.force, box);
        if (s.boxes.get(box).suitor >= 0 || boxOf(suitor) >= 0 || barred(box, suitor) || lasts == 0) {
            return -3;
        }
        remember(2);
        s.boxes.get(box).suitor = suitor;
        s.boxes.get(box).left = lasts;
        return lasts;
    }

    int pass() {
        if (s.terms[0] == 999) {
            return -3;
        }
        remember(3);
        year(s);
        return s.terms[0];
    }

    private int year(ModelState of) {
        int ended = 0;
        int[] losses = new int[of.boxes.size()];
        for (int b = 0; b < losses.length; b++) {
            losses[b] = loses(of, b);
        }
        for (int b = 0; b < losses.length; b++) {
            ModelBox box = of.boxes.get(b);
            box.spring = Math.max(0, box.spring - losses[b]);
            if (box.suitor >= 0 && --box.left == 0) {
                box.suitor = -1;
                ended++;
            }
        }
        of.terms[0]++;
        return ended;
    }

    /** What deeds change comes back; laws, what is in force and what was heard stay. */
    int undo() {
        if (history.isEmpty()) {
            return -3;
        }
        Object[] latest = history.remove(history.size() - 1);
        ModelState then = (ModelState) latest[1];
        s.boxes = then.boxes;
        s.terms = then.terms;
        return (Integer) latest[0];
    }

    int orders() {
        List<String> tokens = read(false);
        stopped = -1;
        if (tokens == null) {
            return -6;
        }
        ModelState ahead = s.copy();
        List<Object[]> historyAhead = new ArrayList<>(history);
        int done = 0;
        int latest = -1;
        List<List<String>> clauses = Texts.split(tokens, ";");
        for (int c = 0; c < clauses.size(); c++) {
            List<List<String>> sides = Texts.split(clauses.get(c), "if");
            List<List<String>> body = Texts.split(sides.get(0), "times");
            int times = body.size() == 1 ? 1 : Integer.parseInt(body.get(1).get(0));
            for (int i = 0; i < times; i++) {
                Map<String, Integer> words = words(done, latest);
                try {
                    if (sides.size() == 2 && !Texts.test(sides.get(1), words)) {
                        continue;
                    }
                } catch (Broken e) {
                    continue;
                }
                int answer = run(body.get(0), words);
                if (answer < 0) {
                    s = ahead;
                    history = historyAhead;
                    stopped = c;
                    return -3;
                }
                done++;
                latest = body.get(0).get(0).equals("wed") ? answer : latest;
            }
        }
        return done;
    }

    private Map<String, Integer> words(int done, int latest) {
        Map<String, Integer> words = new HashMap<>();
        words.put("year", s.terms[0]);
        words.put("done", done);
        words.put("latest", latest);
        words.put("couples", count(2));
        for (int b = 0; b < 6; b++) {
            words.put("left" + b, noBox(b) ? -1 : s.boxes.get(b).left);
            words.put("notes" + b, noBox(b) ? -1 : s.boxes.get(b).notes());
        }
        return words;
    }

    private int run(List<String> body, Map<String, Integer> words) {
        List<String> rest = body.subList(1, body.size());
        List<Integer> values = new ArrayList<>();
        try {
            for (List<String> a : Texts.split(rest, "at")) {
                for (List<String> b : Texts.split(a, "of")) {
                    for (List<String> c : Texts.split(b, "to")) {
                        if (!c.isEmpty()) {
                            values.add((int) Texts.sum(c, words));
                        }
                    }
                }
            }
        } catch (Broken e) {
            return -3;
        }
        switch (body.get(0)) {
            case "pull": return pull(values.get(0), values.get(1), values.get(2));
            case "snap": return snap(values.get(0), values.get(1));
            case "wed": return wed(values.get(0), values.get(1));
            default: return pass();
        }
    }

    int hear(int bar, int tooth, int sounded) {
        if (out(bar, 7) || out(tooth, 7) || out(sounded, 1)) {
            return -1;
        }
        if (s.heard.size() == 8) {
            return -5;
        }
        s.heard.add(new int[] {bar, tooth, sounded});
        return s.heard.size();
    }

    int forget() {
        int n = s.heard.size();
        s.heard.clear();
        return n;
    }

    int which() {
        int bits = 0;
        for (int b = 0; b < s.boxes.size(); b++) {
            boolean all = true;
            for (int[] h : s.heard) {
                all &= s.boxes.get(b).note(h[0], h[1]) == (h[2] == 1);
            }
            bits += all ? 1 << b : 0;
        }
        return bits;
    }

    int listen(int what) {
        int which = which();
        if (out(what, 1) || which == 0) {
            return -1;
        }
        int[] best = null;
        for (int place = 0; place < 64; place++) {
            int[] split = new int[2];
            for (int b = 0; b < s.boxes.size(); b++) {
                if ((which & 1 << b) != 0) {
                    split[s.boxes.get(b).note(place / 8, place % 8) ? 1 : 0]++;
                }
            }
            int more = Math.max(split[0], split[1]);
            if (best == null || more < best[1]) {
                best = new int[] {place / 8 * 10 + place % 8, more};
            }
        }
        return best[what];
    }

    private boolean free(int box, int suitor) {
        return s.boxes.get(box).suitor < 0 && boxOf(suitor) < 0 && !barred(box, suitor);
    }

    private int apart(int box, int suitor) {
        return Math.abs(lasts(s, s.force, box) - s.suitors.get(suitor)[1]);
    }

    /** In rounds: all that have none ask their next at once. */
    int steady(int box) {
        if (noBox(box)) {
            return -1;
        }
        int boxes = s.boxes.size();
        List<List<Integer>> lists = new ArrayList<>();
        for (int b = 0; b < boxes; b++) {
            List<Integer> list = new ArrayList<>();
            for (int t = 0; t < s.suitors.size(); t++) {
                if (free(b, t)) {
                    list.add(t);
                }
            }
            int me = b;
            list.sort((x, y) -> apart(me, x) != apart(me, y) ? apart(me, x) - apart(me, y) : x - y);
            lists.add(list);
        }
        int[] has = new int[boxes];
        Arrays.fill(has, -1);
        boolean asked = true;
        while (asked) {
            asked = false;
            Map<Integer, List<Integer>> at = new HashMap<>();
            for (int b = 0; b < boxes; b++) {
                if (has[b] < 0 && !lists.get(b).isEmpty()) {
                    asked = true;
                    has[b] = lists.get(b).remove(0);
                }
                if (has[b] >= 0) {
                    at.computeIfAbsent(has[b], k -> new ArrayList<>()).add(b);
                }
            }
            for (Map.Entry<Integer, List<Integer>> e : at.entrySet()) {
                int t = e.getKey();
                int kept = Collections.max(e.getValue(), (x, y) -> likes(x, t) != likes(y, t) ? likes(x, t) - likes(y, t) : y - x);
                for (int b : e.getValue()) {
                    has[b] = b == kept ? t : -1;
                }
            }
        }
        return has[box];
    }

    private int[] bestMatch;

    int about(int d, int what) {
        if (out(d, 60) || out(what, 1 + s.boxes.size())) {
            return -1;
        }
        int boxes = s.boxes.size();
        int[][] cost = new int[boxes][s.suitors.size()];
        for (int b = 0; b < boxes; b++) {
            for (int t = 0; t < s.suitors.size(); t++) {
                cost[b][t] = free(b, t) && apart(b, t) <= d ? apart(b, t) : -1;
            }
        }
        bestMatch = null;
        matchAll(cost, 0, new int[boxes + 2], 0);
        if (what >= 2 && s.boxes.get(what - 2).suitor >= 0) {
            return -1;
        }
        return bestMatch[what];
    }

    /** Rows are {how many, differences, suitors by boxes}; they come in their order, so the first best one stays. */
    private void matchAll(int[][] cost, int box, int[] row, int used) {
        if (box == cost.length) {
            if (bestMatch == null || row[0] > bestMatch[0] || row[0] == bestMatch[0] && row[1] < bestMatch[1]) {
                bestMatch = row.clone();
            }
            return;
        }
        for (int t = 0; t < cost[box].length; t++) {
            if (cost[box][t] >= 0 && (used & 1 << t) == 0) {
                int[] next = row.clone();
                next[0]++;
                next[1] += cost[box][t];
                next[2 + box] = t;
                matchAll(cost, box + 1, next, used | 1 << t);
            }
        }
        int[] none = row.clone();
        none[2 + box] = 100;
        matchAll(cost, box + 1, none, used);
    }

    /** From the first bar on: by last set the cheapest and first row. */
    int keep(int box, int d, int bar) {
        if (noBox(box) || out(d, 8) || bar < -1 || bar > 7) {
            return -1;
        }
        int[][] rows = new int[256][];
        for (int b = 0; b < 8; b++) {
            int pins = s.boxes.get(box).set(b);
            int[][] next = new int[256][];
            for (int set = 0; set < 256; set++) {
                if ((set & pins) != pins) {
                    continue;
                }
                int more = Integer.bitCount(set) - Integer.bitCount(pins);
                for (int from = 0; from < (b == 0 ? 1 : 256); from++) {
                    if (b > 0 && (rows[from] == null || Integer.bitCount(from ^ set) > d)) {
                        continue;
                    }
                    int[] row = b == 0 ? new int[9] : rows[from];
                    if (next[set] == null || row[0] + more < next[set][0]
                        || row[0] + more == next[set][0] && Arrays.compare(row, 1, b + 1, next[set], 1, b + 1) < 0) {
                        row = row.clone();
                        row[0] += more;
                        row[1 + b] = set;
                        next[set] = row;
                    }
                }
            }
            rows = next;
        }
        int[] best = null;
        for (int[] row : rows) {
            if (row != null && (best == null || Arrays.compare(row, best) < 0)) {
                best = row;
            }
        }
        return best[1 + bar];
    }

    private boolean two(int one, int other) {
        return !noBox(one) && !noBox(other) && one != other;
    }

    /** Twos of teeth that clash, one for each bar. */
    private List<int[]> clashing(int one, int other, int turn) {
        List<int[]> all = new ArrayList<>();
        for (int b = 0; b < 8; b++) {
            for (int i = 0; i < 8; i++) {
                for (int j = 0; j < 8; j++) {
                    if (Math.abs(i - j) == 1 && s.boxes.get(one).note(b, i) && s.boxes.get(other).note((b + turn) % 8, j)) {
                        all.add(new int[] {i, j});
                    }
                }
            }
        }
        return all;
    }

    int clash(int one, int other, int turn) {
        return two(one, other) && !out(turn, 7) ? clashing(one, other, turn).size() : -1;
    }

    int best(int one, int other, int what) {
        if (!two(one, other) || out(what, 1)) {
            return -1;
        }
        int[] best = {0, clash(one, other, 0)};
        for (int t = 1; t < 8; t++) {
            if (clash(one, other, t) < best[1]) {
                best = new int[] {t, clash(one, other, t)};
            }
        }
        return best[what];
    }

    int filed(int one, int other, int turn, int what) {
        if (!two(one, other) || out(turn, 7) || out(what, 2)) {
            return -1;
        }
        List<int[]> all = clashing(one, other, turn);
        int[] best = {99, 0, 0};
        for (int both = 0; both < 65536; both++) {
            int teeth = Integer.bitCount(both);
            if (teeth >= best[0]) {
                continue;
            }
            boolean none = true;
            for (int[] c : all) {
                none &= (both >> 8 & 1 << c[0]) != 0 || (both & 1 << c[1]) != 0;
            }
            if (none) {
                best = new int[] {teeth, both >> 8, both & 255};
            }
        }
        return best[what];
    }

    private int[] bestShare;

    int shares(int k, int what) {
        if (k < 1 || k > 3 || out(what, s.boxes.size())) {
            return -1;
        }
        bestShare = null;
        shareAll(k, 0, new int[1 + s.boxes.size()], new int[k]);
        return bestShare[what];
    }

    private void shareAll(int k, int box, int[] row, int[] has) {
        if (box == s.boxes.size()) {
            int least = Arrays.stream(has).min().getAsInt();
            if (bestShare == null || least > bestShare[0]) {
                bestShare = row.clone();
                bestShare[0] = least;
            }
            return;
        }
        int lasts = lasts(s, s.force, box);
        for (int sister = 0; sister < k; sister++) {
            row[1 + box] = sister;
            has[sister] += lasts;
            shareAll(k, box + 1, row, has);
            has[sister] -= lasts;
        }
    }

    int again(int box, int i) {
        if (noBox(box) || i < -1) {
            return -1;
        }
        List<Integer> all = new ArrayList<>();
        for (int place = 0; place < 64; place++) {
            int b = place / 8;
            int c = place % 8;
            boolean same = b < c;
            for (int t = 0; t < 8; t++) {
                same &= s.boxes.get(box).note(b, t) == s.boxes.get(box).note(c, t);
            }
            if (same) {
                all.add(10 * b + c);
            }
        }
        return i == -1 ? all.size() : i < all.size() ? all.get(i) : -1;
    }

    int ends(int n) {
        if (out(n, 60)) {
            return -1;
        }
        int bits = 0;
        for (int b = 0; b < s.boxes.size(); b++) {
            bits += s.boxes.get(b).suitor >= 0 && s.boxes.get(b).left > n ? 1 << b : 0;
        }
        return bits;
    }

    long stands(int box, int n) {
        if (noBox(box) || out(n, 60)) {
            return -1;
        }
        long[] p = new long[21];
        p[s.boxes.get(box).spring] = 1000000000000L;
        for (int y = 0; y < n; y++) {
            long[] q = new long[21];
            for (int k = 0; k < 21; k++) {
                q[k] += k == 0 ? p[0] : p[k] * (10 - s.terms[1]) / 10;
                if (k > 0) {
                    q[k - 1] += p[k] * s.terms[1] / 10;
                }
            }
            p = q;
        }
        return Arrays.stream(p).sum() - p[0];
    }

    int compare(int law) {
        if (law < -1 || law >= s.laws.size()) {
            return -1;
        }
        int all = 0;
        for (int b = 0; b < s.boxes.size(); b++) {
            all += lasts(s, law, b);
        }
        return all;
    }

    int generations(int seed, int n) {
        if (out(seed, 1000000) || n < 1 || n > 60) {
            return -1;
        }
        if (s.boxes.isEmpty()) {
            return -3;
        }
        ModelState paper = s.copy();
        long[] state = {seed};
        int ended = 0;
        for (int i = 0; i < n && paper.terms[0] != 999; i++) {
            ModelBox b = paper.boxes.get(draw(state, paper.boxes.size()));
            int bar = draw(state, 8);
            int tooth = draw(state, 8);
            int how = draw(state, 3);
            if (how == 0) {
                b.pin[bar][tooth] = false;
            } else if (how == 1) {
                b.broken[tooth] = true;
            } else {
                b.spring = Math.max(0, b.spring - 1);
            }
            ended += year(paper);
        }
        drawn = paper.boxes;
        return ended;
    }

    private static int draw(long[] state, int m) {
        state[0] = (state[0] * 1103 + 12345) % 1000003;
        return (int) (state[0] % m);
    }

    int drawn(int box, int what) {
        if (out(box, drawn.size() - 1) || out(what, 2)) {
            return -1;
        }
        ModelBox b = drawn.get(box);
        return what == 0 ? b.notes() : what == 1 ? b.spring : b.left;
    }

    int image(int k) {
        if (out(k, 1)) {
            return -1;
        }
        images[k] = s.copy();
        return 0;
    }

    int back(int k) {
        if (out(k, 1)) {
            return -1;
        }
        if (images[k] == null) {
            return -2;
        }
        s = images[k].copy();
        history.clear();
        return 0;
    }

    int count(int what) {
        int couples = 0;
        for (ModelBox b : s.boxes) {
            couples += b.suitor >= 0 ? 1 : 0;
        }
        int[] all = {s.boxes.size(), s.suitors.size(), couples, s.heard.size(), s.laws.size(), history.size(), tape.size(),
            refused.getOrDefault(-1, 0), refused.getOrDefault(-2, 0), refused.getOrDefault(-3, 0),
            refused.getOrDefault(-5, 0), refused.getOrDefault(-6, 0), s.force, s.terms[0], s.terms[1], s.terms[2]};
        return out(what, 15) ? -1 : all[what];
    }
}
