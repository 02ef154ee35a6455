/** "Terms" II of the document, the tape and both languages: a test for each sentence that names a bound or a case. */
public final class TextsTest {
    private static final String LAW_CLAUSE = "CLAUSE: ((\"lasts\" | \"likes\" | \"loses\") SUM | \"bars\") [\"if\" TEST].";

    private static void says(String sentence) {
        Sentences.says("Terms", sentence);
    }

    public static void main(String[] args) {
        tape();
        tokens();
        clauses();
        tests();
        plains();
        sums();
        numbers();
        parts();
        brackets();
        faults();
        billions();
        zeros();
        leaps();
        lawsKept();
        lawClauses();
        lawWords();
        askedOfBoxes();
        holding();
        lasting();
        likingAndLosing();
        barred();
        orderClauses();
        timesOfOrders();
        wordsOfOrders();
        running();
        notRun();
        allOrNothing();
        Sentences.end();
    }

    /** The law is read (place -1), or has its FAULT at that place. */
    private static void law(String text, int place) {
        Scene s = new Scene();
        if (place < 0) {
            s.due("law " + text, 0, "fault()", -1, "count(4)", 1, "count(6)", 0, "status()", 0);
        } else {
            s.refuses("law " + text, -6, "fault() " + place);
        }
    }

    /** The orders are read (place -1), whether or not they can be, or have their FAULT at that place. */
    private static void orders(String text, int place) {
        Scene s = new Scene();
        if (place < 0) {
            s.does("orders " + text);
            s.due("fault()", -1, "count(11)", 0, "count(6)", 0);
        } else {
            s.refuses("orders " + text, -6, "fault() " + place);
        }
    }

    /** What a box of spring 7 without notes LASTS by the law. */
    private static void lasts(String law, int want) {
        new Scene("box(7)").due("law " + law, 0, "force(0)", -1, "of(0, 5)", want);
    }

    private static void sum(String sum, int want) {
        lasts("lasts " + sum, want);
    }

    private static void brokenSum(String sum) {
        lasts("lasts 9;lasts " + sum, 9);
    }

    private static void so(String test) {
        lasts("lasts 9;lasts 5 if " + test, 5);
        lasts("lasts 9;lasts 5 if not (" + test + ")", 9);
    }

    private static void notSo(String test) {
        lasts("lasts 9;lasts 5 if " + test, 9);
        lasts("lasts 9;lasts 5 if not (" + test + ")", 5);
    }

    private static void brokenTest(String test) {
        lasts("lasts 9;lasts 5 if " + test, 9);
        lasts("lasts 9;lasts 5 if not (" + test + ")", 9);
    }

    // ---- the tape and its tokens ----

    private static void tape() {
        says("TEXTS are on a TAPE of at most 400 bytes.");
        law("bars" + " ".repeat(396), -1);
        law("bars" + " ".repeat(395) + "+", 399);
        law("bars" + " ".repeat(395) + ";", 400);
        law(" ".repeat(400), 400);
        law(" ".repeat(396) + "bars", -1);
        law("+".repeat(400), 0);
        law("a".repeat(400), 0);
        sum("0".repeat(393) + "8", 8);
        orders("pass" + " ".repeat(396), -1);
        orders("pass" + " ".repeat(392) + ";pas", 397);
        Scene s = new Scene("tape " + " ".repeat(400));
        s.none("feed(0, 0, 0, 0, 0)");
        for (int bytes = 399; bytes > 380; bytes -= 9) {
            s.due("end(" + bytes + ")", bytes);
            s.none("feed(1, 2, 3, 4, 5)");
        }
        s.due("end(380)", 380, "feed(1, 2, 3, 4, 5)", 400);
        s.none("feed(0, 0, 0, 0, 0)");
    }

    private static void tokens() {
        says("TOKENS: longest rows of letters a .. z, of digits, single other bytes, any blanks (32) between.");
        for (char c = 0; c < 256; c++) {
            boolean letter = c >= 'a' && c <= 'z';
            boolean digit = c >= '0' && c <= '9';
            boolean joins = "+-*/%;".indexOf(c) >= 0;
            law("bars" + c, c == ' ' ? -1 : c == ';' ? 5 : letter ? 0 : 4);
            law(c + "bars", c == ' ' ? -1 : 0);
            law("lasts 9" + c, c == ' ' || digit ? -1 : joins ? 8 : 7);
            orders("pass" + c, c == ' ' ? -1 : c == ';' ? 5 : letter ? 0 : 4);
        }
        law("lasts5", -1);
        law("lasts 5if 1=1and 2>1or 3<4;loses2", -1);
        law("lasts1+2", -1);
        law("lastsspring", 0);
        law("las ts 5", 0);
        law("lasts spring5", 12);
        law("lasts 1 0", 8);
        law("lasts 10 00", 9);
        law("bars if 1<=2", 10);
        law("bars if 1==2", 10);
        law("bars if 1<>2", 10);
        law("   bars   if   1   =   1   ;   bars   ", -1);
        law("bars if(1=1)and[1]=1", -1);
        law("bars\tif 1=1", 4);
        law("lasts a", 6);
        law("lasts z", 6);
        law("lasts springs", 6);
        law("lasts Spring", 6);
        orders("pass times2", -1);
        orders("pass times 2if 1=1", -1);
        orders("passtimes 2", 0);
        orders("pull1at1of1", -1);
        orders("pass if left0=1", -1);
        orders("pass if le ft 0=1", 8);
    }

    // ---- what both languages share ----

    private static void clauses() {
        says("CLAUSE {\";\" CLAUSE}, 12 at most (FAULT at the 13th's first TOKEN).");
        law("bars", -1);
        law("bars;".repeat(11) + "bars", -1);
        law("bars;".repeat(12) + "bars", 60);
        law("bars;".repeat(12) + "   bars", 63);
        law("bars;".repeat(12) + "nonsense", 60);
        law("bars;".repeat(12) + ";", 60);
        law("bars;".repeat(12), 60);
        law("bars;".repeat(12) + "  ", 62);
        law("bars;".repeat(11), 55);
        law("bars;".repeat(11) + "bars bars", 60);
        law(";", 0);
        law("bars;", 5);
        law("bars;;bars", 5);
        law(";bars", 0);
        orders("pass;".repeat(11) + "pass", -1);
        orders("pass;".repeat(12) + "pass", 60);
        orders("pass;".repeat(12), 60);
        orders("pass;".repeat(12) + " 7", 61);
        orders("pass;", 5);
        orders("pass;;pass", 5);
        orders("pass pass", 5);
        new Scene().due("orders " + "pass;".repeat(11) + "pass", 12);
    }

    private static void tests() {
        says("TEST: BOTH {\"or\" BOTH}. BOTH: PLAIN {\"and\" PLAIN}.");
        so("1=1 or 1=2");
        so("1=2 or 1=1");
        notSo("1=2 or 1=3");
        so("1=2 or 1=3 or 1=1");
        so("1=1 and 2=2");
        notSo("1=1 and 1=2");
        notSo("1=2 and 1=1");
        notSo("1=1 and 2=2 and 1=2");
        so("1=1 or 1=1 and 1=2");
        so("1=2 and 1=1 or 1=1");
        notSo("(1=1 or 1=1) and 1=2");
        law("bars if", 7);
        law("bars if or", 8);
        law("bars if 1=1 or", 14);
        law("bars if 1=1 and", 15);
        law("bars if 1=1 or or 1=1", 15);
        law("bars if 1=1 and or 1=1", 16);
        law("bars if 1=1 1=1", 12);
        law("bars if 1=1 not 1=1", 12);
        law("bars if 1=1or 1=2and 2=2", -1);
    }

    private static void plains() {
        says("PLAIN: \"not\" PLAIN | \"(\" TEST \")\" | SUM (\"<\" | \">\" | \"=\") SUM.");
        so("1<2");
        notSo("2<2");
        notSo("3<2");
        so("3>2");
        notSo("2>2");
        notSo("1>2");
        so("2=2");
        notSo("1=2");
        notSo("3=2");
        so("0-1<0");
        lasts("lasts 9;lasts 5 if not 1=1 or 1=1", 5);
        lasts("lasts 9;lasts 5 if not 1=2 and 1=2", 9);
        lasts("lasts 9;lasts 5 if not not 1=1", 5);
        lasts("lasts 9;lasts 5 if not not not 1=1", 9);
        so("not (not (1=1))");
        so("not 1=2 and 1=1");
        notSo("not 1=1 and 1=1");
        notSo("not 1=1 or 1=2");
        notSo("not (1=1) and not (1=1)");
        law("bars if " + "not ".repeat(97) + "1=1", -1);
        law("bars if not", 11);
        law("bars if not and", 12);
        law("bars if 1", 9);
        law("bars if 1=", 10);
        law("bars if =1", 8);
        law("bars if 1=1=1", 11);
        law("bars if 1<2<3", 11);
        law("bars if 1;bars", 9);
        law("bars if ()", 9);
        law("bars if (1=1", 12);
        law("bars if 1=1)", 11);
        law("bars if (1)=1", 10);
        law("bars if (1=1]", 12);
        law("bars if [1=1]", 10);
        law("bars if (1=1)=1", 13);
        law("bars if (1=1)+1=1", 13);
        law("bars if 1=(1)", 10);
    }

    private static void sums() {
        says("SUM: TERM {(\"+\" | \"-\") TERM}. TERM: PART {(\"*\" | \"/\" | \"%\") PART}.");
        sum("20-3-2", 15);
        sum("20-3+2", 19);
        sum("2+3*4", 14);
        sum("2*3+4", 10);
        sum("40/4/5", 2);
        sum("40/4*5", 50);
        sum("2*7%4", 2);
        sum("9%5*3", 12);
        sum("[2+3]*4", 20);
        sum("20-[3-2]", 19);
        sum("40/[4*5]", 2);
        law("lasts +1", 6);
        law("lasts -1", 6);
        law("lasts 1+", 8);
        law("lasts 1+*2", 8);
        law("lasts 1--1", 8);
        law("lasts 1*;bars", 8);
        law("lasts", 5);
        law("lasts ;", 6);
        law("lasts (1)", 6);
        law("lasts []", 7);
        law("lasts [1", 8);
        law("lasts 1]", 7);
        law("lasts [1)", 8);
        law("lasts 1 & 2", 8);
        law("lasts 1 ^ 2", 8);
    }

    private static void numbers() {
        says("PART: NUMBER (to 1,000) | \"[\" SUM \"]\" | a word, as told.");
        law("lasts 0", -1);
        law("lasts 1000", -1);
        law("lasts 1001", 6);
        law("lasts 0001000", -1);
        law("lasts 0001001", 6);
        law("lasts 9999999999999999999999", 6);
        law("lasts 4294967296", 6);
        law("lasts 4294967297", 6);
        law("lasts 1+1001", 8);
        law("bars if 1=1001", 10);
        sum("1000-960", 40);
        orders("snap 1000 of 0", -1);
        orders("snap 1001 of 0", 5);
        orders("pass if 1=1001", 10);
    }

    private static void parts() {
        says("50 PARTS that are NUMBERS and words (FAULT at the 51st)");
        sum("1+".repeat(49) + "1", 50);
        law("lasts " + "1+".repeat(50) + "1", 106);
        law("lasts " + "1+".repeat(50) + "  ear", 108);
        law("lasts " + "1+".repeat(50) + "[[1]]", 108);
        law("lasts " + "1+".repeat(50) + "x", 106);
        law("lasts " + "1+".repeat(50), 106);
        law("lasts " + "1+".repeat(49) + "1;bars", -1);
        law("lasts " + "ear+".repeat(49) + "ear", -1);
        law("lasts " + "ear+".repeat(49) + "ear+ear", 206);
        law("lasts " + "[1]+".repeat(49) + "[1]", -1);
        law("lasts " + "[1]+".repeat(50) + "[1]", 207);
        law("lasts " + "1+".repeat(24) + "1;lasts " + "1+".repeat(24) + "1", -1);
        law("lasts " + "1+".repeat(24) + "1;lasts " + "1+".repeat(25) + "1", 112);
        law("lasts " + "1+".repeat(49) + "1 if 1=1", 109);
        law("lasts " + "1+".repeat(47) + "1 if 1=1", -1);
        law("bars if " + "not 1=1 and ".repeat(24) + "1=1", -1);
        law("bars if " + "not 1=1 and ".repeat(25) + "1=1", 308);

        says("B, TIMES aside, NUMBERS and words count as PARTS.");
        orders("pass if " + "left 1+".repeat(48) + "left 1=1", -1);
        orders("pass if " + "left 1+".repeat(49) + "left 1=1", 358);
        orders("pass if " + "1+".repeat(48) + "1+left 1=1", 113);
        orders("pass if " + "1+".repeat(48) + "1=notes 5", -1);
        orders("pass if " + "1+".repeat(48) + "1=1;pass if notes 9=1", 116);
        orders("pass times 20 if " + "1+".repeat(48) + "1=1;pass times 7", -1);
        orders("pass times 20 if " + "1+".repeat(48) + "1=1+1", 117);
        orders("wed 1 to 1;".repeat(11) + "pull " + "1+".repeat(25) + "1 at 1 of 1", -1);
        orders("wed 1 to 1;".repeat(11) + "pull " + "1+".repeat(26) + "1 at 1 of 1", 188);
    }

    private static void brackets() {
        says("8 brackets of both kinds within one another (FAULT at the 9th) at most.");
        sum("[".repeat(8) + "1" + "]".repeat(8), 1);
        law("lasts " + "[".repeat(9) + "1" + "]".repeat(9), 14);
        law("bars if " + "(".repeat(8) + "1=1" + ")".repeat(8), -1);
        law("bars if " + "(".repeat(9) + "1=1" + ")".repeat(9), 16);
        law("bars if " + "(".repeat(4) + "[[[[1]]]]=1" + ")".repeat(4), -1);
        law("bars if " + "(".repeat(4) + "[[[[[1]]]]]=1" + ")".repeat(4), 16);
        law("bars if " + "(".repeat(4) + "1=[[[[1]]]]" + ")".repeat(4), -1);
        law("bars if " + "(".repeat(4) + "1=[[[[[1]]]]]" + ")".repeat(4), 18);
        law("bars if " + "(".repeat(8) + "[1]=1" + ")".repeat(8), 16);
        law("bars if " + "(".repeat(7) + "[1]=[1]" + ")".repeat(7), -1);
        law("bars if " + "not(".repeat(8) + "1=1" + ")".repeat(8), -1);
        law("bars if " + "not(".repeat(9) + "1=1" + ")".repeat(9), 43);
        law("bars if " + "[1]=1 and ".repeat(12) + "(1=1)", -1);
        law("lasts " + "[".repeat(8) + "1" + "]".repeat(8) + "*" + "[".repeat(8) + "1" + "]".repeat(8), -1);
        law("lasts " + "[".repeat(8) + "1" + "]".repeat(8) + " if " + "(".repeat(8) + "1=1" + ")".repeat(8), -1);
        law("lasts " + "[".repeat(8) + "1" + "]".repeat(9), 23);
        orders("snap " + "[".repeat(8) + "1" + "]".repeat(8) + " of " + "[".repeat(8) + "1" + "]".repeat(8), -1);
        orders("snap 1 of " + "[".repeat(9) + "1" + "]".repeat(9), 18);
        orders("pass if " + "(".repeat(9) + "1=1", 16);
    }

    private static void faults() {
        says("FAULT: the first TOKEN that can't go on there (the end's: the TEXT's length).");
        law("", 0);
        law(" ", 1);
        law("     ", 5);
        law("lasts   ", 8);
        law("lasts 1 +  ", 11);
        law("  lasts", 7);
        law("  7", 2);
        law("bars;  ", 7);
        law("bars if 1 =  ", 13);
        law("lasts 1001 1001", 6);
        law("lasts 1 1 x", 8);
        orders("", 0);
        orders("  ", 2);
        orders("pull", 4);
        orders("pull 1 ", 7);
        orders("pass times ", 11);
        orders("pass if left ", 13);
    }

    // ---- broken sums and tests ----

    private static void billions() {
        says("Beyond 1,000,000,000 either way");
        String billion = "1000*1000*1000";
        sum(billion, 60);
        sum("0-" + billion, 0);
        sum("[" + billion + "]/1000/1000/100", 10);
        sum("[0-" + billion + "]/1000/1000/100+30", 20);
        brokenSum(billion + "+1");
        brokenSum("1+" + billion);
        brokenSum("0-" + billion + "-1");
        brokenSum("[0-" + billion + "]-1");
        brokenSum("[0-" + billion + "]+[0-1]");
        brokenSum("1000*1000*[1000+1]");
        brokenSum("1000*1000*[0-1000-1]");
        brokenSum("1000*1000*1000*1000");
        brokenSum("[1000*1000*1000]*[1000*1000*1000]");
        brokenSum("0*[" + billion + "+1]");
        brokenSum("[" + billion + "+1]/1000/1000/1000");
        sum(billion + "-1", 60);
        sum(billion + "-" + billion, 0);
        sum(billion + "/[" + billion + "]", 1);
        so(billion + ">0");
        so("0-" + billion + "<0");
        so(billion + "=" + billion);
        so("0-" + billion + "<" + billion);
        brokenTest(billion + "+1>0");
        brokenTest("0>" + billion + "+1");
        brokenTest("0-" + billion + "-1<0");
        brokenTest("0=0-" + billion + "-1");
    }

    private static void zeros() {
        says("or divided by 0 (/ cut towards 0, % what is left then), a SUM, a TEST is BROKEN");
        brokenSum("5/0");
        brokenSum("5%0");
        brokenSum("0/0");
        brokenSum("0%0");
        brokenSum("1/[1-1]");
        brokenSum("0*[1/0]");
        brokenSum("[0-7]/0");
        brokenSum("[0-7]%0");
        brokenTest("1/0=1");
        brokenTest("1=1%0");
        brokenTest("0/0=0/0");
        sum("7/2", 3);
        sum("7%2", 1);
        sum("0/5", 0);
        sum("0%5", 0);
        sum("6/7", 0);
        sum("6%7", 6);
        sum("10+[0-7]/2", 7);
        sum("10+[0-7]%2", 9);
        sum("10+7/[0-2]", 7);
        sum("10+7%[0-2]", 11);
        sum("10+[0-7]/[0-2]", 13);
        sum("10+[0-7]%[0-2]", 9);
        sum("10+[0-1]/2", 10);
        sum("7/1", 7);
        sum("7%1", 0);
    }

    private static void leaps() {
        says("(\"or\", \"and\" ask what stands behind only if it can still matter)");
        so("1=1 or 1/0=1");
        notSo("1=2 and 1/0=1");
        brokenTest("1=2 or 1/0=1");
        brokenTest("1=1 and 1/0=1");
        brokenTest("1/0=1 or 1=1");
        brokenTest("1/0=1 and 1=2");
        so("1=2 or 1=1 or 1/0=1");
        notSo("1=1 and 1=2 and 1/0=1");
        so("1=2 and 1/0=1 or 1=1");
        so("1=1 or 1=2 and 1/0=1");
        so("1=1 or 1=1 and 1/0=1");
        brokenTest("1=1 and 1/0=1 or 1=1");
        so("(1=1 or 1/0=1) and 1=1");
        notSo("(1=2 and 1/0=1) or 1=2");
        brokenTest("(1=1 or 1/0=1) and 1/0=1");
        so("1=1 or (1/0=1 or 1/0=1) or 1/0=1");
        so("1=2 and (1/0=1 and 1/0=1) or 2=2");
    }

    // ---- laws ----

    private static void lawsKept() {
        says("LAWS, 6 at most; one is in FORCE (NONE at first: no CLAUSE)");
        Scene s = new Scene("box(7)");
        s.due("count(4)", 0, "count(12)", -1, "of(0, 5)", 7, "of(0, 6)", 0);
        s.refuses("force(0)", -2);
        for (int law = 0; law < 6; law++) {
            s.due("law lasts 1" + law, law, "count(4)", law + 1, "count(12)", -1, "of(0, 5)", 7);
        }
        s.refuses("law lasts 16", -5);
        s.refuses("law lasts", -5);
        s.refuses("law()", -5);
        s.due("count(4)", 6, "count(6)", 0, "force(0)", -1, "of(0, 5)", 10, "force(5)", 0, "of(0, 5)", 15);
        s.refuses("force(6)", -2);
        s.due("force(-1)", 5, "of(0, 5)", 7);
    }

    private static void lawClauses() {
        says(LAW_CLAUSE);
        for (String kind : new String[] {"lasts", "likes", "loses"}) {
            law(kind + " 1", -1);
            law(kind + " 1 if 1=1", -1);
            law(kind, 5);
            law(kind + " if 1=1", 6);
            law(kind + " 1 if", 10);
            law(kind + " 1 if 1=1 if 1=1", 15);
            law(kind + " 1 1=1", 8);
            law(kind + " 1 times 2", 8);
            orders(kind + " 1", 0);
        }
        law("bars", -1);
        law("bars if 1=1", -1);
        law("bars 1", 5);
        law("bars 1=1", 5);
        law("bars times 2", 5);
        law("if 1=1", 0);
        for (String other : new String[] {"to", "pull", "snap", "wed", "pass", "box", "spring", "not", "times"}) {
            law(other, 0);
            law(other + " 1", 0);
            law(other + " 1 of 1", 0);
            law(other + " 1 if 1=1", 0);
        }
        law("1", 0);
    }

    /** Box 1 and suitor 2, whose words all have worths of their own. */
    private static Scene told() {
        return new Scene("box(2)", "box(7)", "pins(1, 0, 159)", "pins(1, 3, 1)", "pins(1, 4, 1)", "pins(1, 5, 1)", "suitor(1, 9)",
            "suitor(1, 9)", "suitor(0, 13)", "terms(0, 30)", "terms(2, 9)", "snap(5, 1)", "snap(6, 1)", "snap(7, 1)");
    }

    private static void lawWords() {
        says("Words: \"box\" | \"spring\" | \"notes\" | \"broken\" | \"suitor\" | \"ear\" | \"wants\" | \"year\" | \"mood\".");
        String[] words = {"box", "spring", "notes", "broken", "suitor", "ear", "wants", "year", "mood"};
        int[] worths = {1, 7, 8, 3, 2, 4, 13, 30, 9};
        for (int i = 0; i < words.length; i++) {
            Scene s = told();
            s.due("law likes " + words[i], 0, "force(0)", -1, "asks(1, 2, 1)", worths[i]);
            s.due("law bars if " + words[i] + "=" + worths[i], 1, "force(1)", 0, "asks(1, 2, 2)", 1);
            s.due("law bars if not " + words[i] + "=" + worths[i], 2, "force(2)", 1, "asks(1, 2, 2)", 0);
        }
        for (String word : new String[] {"done", "latest", "couples", "left 1", "notes 1", "left", "tooth", "if", "not",
            "lasts"}) {
            law("likes " + word, word.equals("notes 1") ? 12 : 6);
        }

        says("notes: how many NOTES the BOX has; broken: how many of its TEETH are; ear: at how many BARS the BOX has a NOTE of the "
            + "SUITOR's EAR.");
        Scene s = new Scene("box(1)", "suitor(7, 0)", "law likes notes", "law likes broken", "law likes ear");
        s.due("force(0)", -1, "asks(0, 0, 1)", 0, "force(1)", 0, "asks(0, 0, 1)", 0, "force(2)", 1, "asks(0, 0, 1)", 0);
        for (int bar = 0; bar < 8; bar++) {
            s.does("pins(0, " + bar + ", 255)");
        }
        s.due("asks(0, 0, 1)", 8, "force(0)", 2, "asks(0, 0, 1)", 64);
        for (int tooth = 0; tooth < 8; tooth++) {
            s.does("snap(" + tooth + ", 0)");
        }
        s.due("asks(0, 0, 1)", 0, "force(1)", 0, "asks(0, 0, 1)", 8, "force(2)", 1, "asks(0, 0, 1)", 0);
    }

    private static void askedOfBoxes() {
        says("\"lasts\", \"loses\" are asked of a BOX (suitor, ear, wants -1), \"likes\", \"bars\" of a BOX and a SUITOR.");
        for (String word : new String[] {"suitor", "ear", "wants"}) {
            told().due("law lasts " + word + "+5;loses " + word + "+5", 0, "force(0)", -1, "of(1, 5)", 4, "of(1, 6)", 4);
            told().due("law lasts 3 if " + word + "<0;loses 3 if " + word + "=0-1", 0, "force(0)", -1, "of(1, 5)", 3,
                "of(1, 6)", 3);
        }
        told().due("law lasts box*10+broken;loses spring", 0, "force(0)", -1, "of(1, 5)", 13, "of(0, 5)", 0, "of(1, 6)", 7,
            "of(0, 6)", 2);
        // A wed box is asked as any other.
        told().due("wed(1, 2)", 9, "law lasts wants+6", 0, "force(0)", -1, "of(1, 5)", 5, "compare(0)", 10);
    }

    private static void holding() {
        says("A CLAUSE HOLDS, if its \"if\" (if it has one) is so, and neither that nor its SUM is BROKEN.");
        lasts("lasts 4", 4);
        lasts("lasts 4 if 1=1", 4);
        lasts("lasts 4 if 1=2", 7);
        lasts("lasts 4 if 1/0=1", 7);
        lasts("lasts 4/0", 7);
        lasts("lasts 4/0 if 1=1", 7);
        lasts("lasts 3;lasts 4/0 if 1=1", 3);
        lasts("lasts 3;lasts 4 if 1/0=1", 3);
        Scene s = new Scene("box(7)", "suitor(0, 0)", "pins(0, 0, 1)",
            "law bars if 1/0=1;likes 5/0;loses 5/0;likes 8 if 1/0=0", "force(0)");
        s.due("asks(0, 0, 1)", 1, "asks(0, 0, 2)", 0, "of(0, 6)", 0);
    }

    private static void lasting() {
        says("A BOX LASTS 0 .. 60 years as the last \"lasts\" that HOLDS tells (else the nearest), without SPRING and NOTES by 4, cut");
        sum("60", 60);
        sum("61", 60);
        sum("59", 59);
        sum("1000", 60);
        sum("0", 0);
        sum("0-1", 0);
        sum("0-1000", 0);
        lasts("lasts 1;lasts 2;lasts 3", 3);
        lasts("lasts 1;lasts 2;lasts 3 if 1=2", 2);
        lasts("lasts 1;lasts 2 if 1=2;lasts 3 if 1=2", 1);
        lasts("lasts 1 if 1=2;likes 3;loses 4", 7);
        lasts("lasts 5;" + "bars;".repeat(10) + "loses 1", 5);
        lasts("loses 1;" + "bars;".repeat(10) + "lasts 5", 5);
        Scene s = new Scene("box(20)");
        int[] pins = {0, 1, 7, 15, 31, 127, 255};
        int[] want = {20, 20, 20, 21, 21, 21, 22};
        for (int i = 0; i < pins.length; i++) {
            s.does("pins(0, 0, " + pins[i] + ")");
            s.due("of(0, 5)", want[i]);
        }
        for (int bar = 1; bar < 8; bar++) {
            s.does("pins(0, " + bar + ", 255)");
            s.due("of(0, 5)", 22 + 2 * bar);
        }
        new Scene("box(0)", "pins(0, 0, 7)").due("of(0, 5)", 0, "pins(0, 1, 1)", 0, "of(0, 5)", 1);
    }

    private static void likingAndLosing() {
        says("a SUITOR LIKES it 0 .. 99, without by ear; its SPRING LOSES 0 .. 9 a YEAR, 0 without");
        String[] sums = {"0", "0-1", "0-1000", "1", "8", "9", "10", "98", "99", "100", "1000"};
        int[] likes = {0, 0, 0, 1, 8, 9, 10, 98, 99, 99, 99};
        for (int i = 0; i < sums.length; i++) {
            Scene s = new Scene("box(20)", "suitor(0, 0)", "law likes " + sums[i] + ";loses " + sums[i], "force(0)");
            int loses = Math.min(likes[i], 9);
            s.due("asks(0, 0, 1)", likes[i], "of(0, 6)", loses, "pass()", 1, "of(0, 0)", 20 - loses);
        }
        Scene s = new Scene("box(5)", "suitor(3, 0)", "law likes 7 if 1=2;loses 7 if 1=2;lasts 9");
        s.due("asks(0, 0, 1)", 0, "of(0, 6)", 0, "pins(0, 0, 8)", 0, "asks(0, 0, 1)", 1, "force(0)", -1, "asks(0, 0, 1)", 1,
            "of(0, 6)", 0);
        s.due("pass()", 1, "of(0, 0)", 5, "law likes 1;likes 2;loses 3;loses 4;likes 9 if 1=2;loses 9/0", 1, "force(1)", 0);
        s.due("asks(0, 0, 1)", 2, "of(0, 6)", 4);
    }

    private static void barred() {
        says("they are BARRED, if \"bars\" HOLDS.");
        Scene s = new Scene("box(3)", "box(3)", "suitor(0, 0)", "law bars", "law bars if box=1;bars if box=7",
            "law bars if 1/0=1", "law lasts 9");
        s.due("asks(0, 0, 2)", 0, "force(0)", -1, "asks(0, 0, 2)", 1, "asks(1, 0, 2)", 1, "force(1)", 0, "asks(0, 0, 2)", 0);
        s.due("asks(1, 0, 2)", 1, "force(2)", 1, "asks(1, 0, 2)", 0, "force(3)", 2, "asks(1, 0, 2)", 0, "wed(1, 0)", 9,
            "force(0)", 3);
        s.due("asks(1, 0, 2)", 1, "of(1, 4)", 9);
    }

    // ---- orders ----

    private static void orderClauses() {
        says("(\"pull\" SUM \"at\" SUM \"of\" SUM | \"snap\" SUM \"of\" SUM | \"wed\" SUM \"to\" SUM | \"pass\") [\"times\" TIMES] "
            + "[\"if\" TEST].");
        orders("pull 1 at 2 of 3", -1);
        orders("pull 1 at 2 of 3 times 4 if 1=1", -1);
        orders("pull 1 at 2", 11);
        orders("pull 1 of 2", 7);
        orders("pull 1 at 2 to 3", 12);
        orders("pull 1 at 2 of 3 of 4", 17);
        orders("pull at 2 of 3", 5);
        orders("snap 1 of 2", -1);
        orders("snap 1", 6);
        orders("snap 1 at 2", 7);
        orders("snap 1 to 2", 7);
        orders("snap 1 of 2 of 3", 12);
        orders("wed 1 to 2", -1);
        orders("wed 1", 5);
        orders("wed 1 of 2", 6);
        orders("wed 1 at 2", 6);
        orders("pass", -1);
        orders("pass 1", 5);
        orders("pass if 1=1", -1);
        orders("pass if 1=1 times 2", 12);
        orders("pass times 2 times 2", 13);
        for (String other : new String[] {"lasts", "likes", "loses", "bars", "box", "spring", "year", "left", "undo", "to"}) {
            orders(other, 0);
            orders(other + " 1", 0);
            orders(other + " 1 of 1", 0);
            orders(other + " 1 to 1", 0);
        }

        says("(a TOOTH, a BAR, a BOX; a TOOTH, a BOX; a BOX, a SUITOR; a YEAR.)");
        Scene s = new Scene("box(1)", "box(5)", "suitor(0, 0)", "suitor(0, 0)", "pins(1, 7, 129)", "pins(0, 1, 1)");
        s.due("orders pull 7 at 7 of 1", 1, "of(1, 14)", 1, "of(0, 8)", 1, "orders snap 7 of 0", 1, "of(0, 2)", 128,
            "of(1, 2)", 0);
        s.due("orders wed 0 to 1", 1, "of(0, 3)", 1, "orders pass", 1, "count(13)", 1, "count(5)", 4);
        s.due("undo()", 3, "undo()", 2, "undo()", 1, "undo()", 0, "of(1, 14)", 129);
    }

    private static void timesOfOrders() {
        says("TIMES: a NUMBER 1 .. 20.");
        orders("pass times 1", -1);
        orders("pass times 20", -1);
        orders("pass times 0", 11);
        orders("pass times 21", 11);
        orders("pass times 1000", 11);
        orders("pass times 9999999999", 11);
        orders("pass times", 10);
        orders("pass times year", 11);
        orders("pass times [1]", 11);
        orders("pass times 1+1", 12);
        orders("pass times 007", -1);
        new Scene().due("orders pass times 1", 1, "count(13)", 1, "orders pass times 20", 20, "count(13)", 21,
            "orders pass", 1, "count(13)", 22);

        says("Run CLAUSE by CLAUSE, each as often as TIMES tell (once without)");
        new Scene().due("orders pass times 2;pass;pass times 3", 6, "count(13)", 6, "count(5)", 6);
        new Scene("box(1)", "pins(0, 0, 255)").due("orders pull done at 0 of 0 times 8", 8, "of(0, 7)", 0);
        new Scene().due("orders " + "pass times 20;".repeat(11) + "pass times 20", 240, "count(13)", 240, "count(5)", 16);
    }

    private static void wordsOfOrders() {
        says("Words: \"year\" | \"done\" | \"latest\" | \"couples\" | \"left\" B | \"notes\" B (B: a NUMBER 0 .. 5).");
        for (String word : new String[] {"left", "notes"}) {
            int behind = 9 + word.length();
            orders("pass if " + word + " 0=0", -1);
            orders("pass if " + word + " 5=0", -1);
            orders("pass if " + word + " 6=0", behind);
            orders("pass if " + word + " 1000=0", behind);
            orders("pass if " + word + " 05=0", -1);
            orders("pass if " + word + "=0", behind - 1);
            orders("pass if " + word + " year=0", behind);
            orders("pass if " + word + " [0]=0", behind);
            orders("pass if " + word, behind - 1);
        }
        for (String word : new String[] {"box", "spring", "broken", "suitor", "ear", "wants", "mood", "times", "pass"}) {
            orders("pass if " + word + "=0", 8);
        }
        for (String word : new String[] {"year", "done", "latest", "couples"}) {
            orders("pass if " + word + "=0", -1);
            orders("pass if " + word + " 0=0", 9 + word.length());
        }

        says("done: how many were run in this TEXT, latest: what the latest wed in it told (-1: none), couples: how many BOXES are "
            + "wed, left, notes: -1 without such a BOX.");
        Scene s = new Scene("box(3)", "box(6)", "suitor(0, 0)", "suitor(0, 0)", "pins(1, 0, 7)");
        s.due("orders pass if done=0;pass if done=0;pass if done=1;pass times 3 if done=2", 3, "count(13)", 3);
        s.due("orders pass if done=0 and year=3", 1);
        s.due("orders pass if latest=0-1 and couples=0;wed 0 to 0;pass if latest=3 and couples=1;wed 1 to 1;pass if latest=6 and couples=2", 5);
        s.due("orders pass if latest=0-1", 1, "count(2)", 1, "of(1, 4)", 4);
        s.due("orders pass if left 0=0 and left 1=4 and left 2=0-1 and left 5=0-1 and couples=1", 1);
        s.due("orders pass if notes 0=0 and notes 1=3 and notes 2=0-1 and notes 5=0-1", 1, "snap(0, 1)", 2);
        s.due("orders pull 1 at 0 of 1;pass if notes 1=1", 2, "count(13)", 11);
        for (int i = 2; i < 6; i++) {
            s.does("box(" + i + ")");
        }
        s.due("orders pass if left 5=0 and notes 5=0", 1);
    }

    private static void running() {
        says("each time its \"if\" is asked (not run, if it is not so or BROKEN), then its SUMS from the left.");
        Scene s = new Scene("box(1)", "pins(0, 0, 255)");
        s.due("orders pass times 20 if year<3", 3, "count(13)", 3, "orders pass times 20 if year%2=1", 1, "count(13)", 4);
        s.due("orders pull notes 0-1 at 0 of 0 times 20 if notes 0>5", 3, "of(0, 7)", 31);
        s.due("orders pass if 1=2", 0, "status()", 0, "stopped()", -1, "orders pass if 1/0=1", 0, "status()", 0, "stopped()", -1);
        s.due("orders pass if 1/0=1;pass", 1, "count(13)", 5, "orders snap 1/0 of 0 if 1=2", 0, "stopped()", -1);
        s.due("orders snap 1/0 of 0 if 1/0=1", 0, "orders snap 9 of 9 if 1=2", 0, "stopped()", -1, "fault()", -1);
    }

    private static void notRun() {
        says("One that can't be (a BROKEN SUM, as pull(), snap(), wed(), pass() are REFUSED) ends it");
        String[] cant = {"pull 1/0 at 0 of 0", "pull 0 at 1/0 of 0", "pull 0 at 0 of 1/0", "pull 8 at 0 of 0",
            "pull 0-1 at 0 of 0",
            "pull 0 at 8 of 0", "pull 0 at 0-1 of 0", "pull 0 at 0 of 3", "pull 0 at 0 of 0-1", "pull 0 at 0 of 0",
                "snap 1/0 of 1",
            "snap 0 of 1/0", "snap 8 of 1", "snap 0-1 of 1", "snap 0 of 3", "snap 0 of 0-1", "snap 1 of 1", "wed 1/0 to 0",
                "wed 1 to 0%0",
            "wed 3 to 0", "wed 0-1 to 0", "wed 1 to 3", "wed 1 to 0-1", "wed 0 to 0", "wed 1 to 1", "wed 2 to 0",
            "wed 1000*1000*1000 to 0", "snap 1000*1000*1000+1 of 1"};
        for (String order : cant) {
            Scene.ofAll().refuses("orders " + order, -3, "count(6) 0", "fault() -1", "stopped() 0");
        }
        Scene last = new Scene("terms(0, 999)");
        last.refuses("orders pass", -3, "stopped() 0");
        new Scene("terms(0, 979)").due("orders pass times 20", 20, "count(13)", 999);
        new Scene("terms(0, 980)").due("orders pass times 20", -3, "count(13)", 980, "stopped()", 0);
    }

    private static void allOrNothing() {
        says("all is as it was ahead of it.");
        String[] ahead = {"pull 2 at 0 of 0", "snap 0 of 0", "wed 1 to 0", "pass", "pass times 20",
            "pull 2 at 0 of 0;snap 7 of 1;wed 1 to 2;pass times 3"};
        int[] clauses = {1, 1, 1, 1, 1, 4};
        for (int i = 0; i < ahead.length; i++) {
            Scene s = Scene.ofAll();
            s.refuses("orders " + ahead[i] + ";snap 1 of 1;pass", -3, "count(6) 0", "fault() -1", "stopped() " + clauses[i]);
            s.refuses("orders " + ahead[i] + ";pass if 1=2;snap 0 of 2 times 2", -3, "stopped() " + (clauses[i] + 1));
            s.does("orders " + ahead[i]);
            s.due("stopped()", -1, "status()", 0);
        }
    }
}
