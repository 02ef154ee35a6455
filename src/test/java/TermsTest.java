/** "Terms" I, III and IV of the document, a test for each sentence that names a bound, an empty or a full case. */
public final class TermsTest {
    private static void says(String sentence) {
        Sentences.says("Terms", sentence);
    }

    public static void main(String[] args) {
        constants();
        sixBoxes();
        bars();
        teeth();
        springs();
        mates();
        notes();
        sixSuitors();
        eightHeard();
        terms();
        refusedByTheFirst();
        refusedByEachAlone();
        pulling();
        snapping();
        wedding();
        years();
        lastYear();
        whichBox();
        listening();
        steady();
        about();
        rules();
        turns();
        bestTurn();
        filing();
        sharing();
        again();
        ending();
        standing();
        compared();
        draws();
        generations();
        rows();
        images();
        Sentences.end();
    }

    private static void constants() {
        says("The constants: `NONE = -1`: There is none.");
        if (DowryBoxes.NONE != -1) {
            Sentences.wrong("NONE is " + DowryBoxes.NONE);
        }
    }

    // ---- I ----

    private static void sixBoxes() {
        says("BOXES 0 .. 5 (6 at most)");
        Scene s = new Scene();
        for (int i = 0; i < 6; i++) {
            s.none("of(" + i + ", 0)");
            s.refuses("pins(" + i + ", 0, 0)", -2);
            s.due("box(" + (i + 1) + ")", i, "of(" + i + ", 0)", i + 1, "count(0)", i + 1);
        }
        s.refuses("box(0)", -5);
        s.refuses("box(20)", -5);
        s.due("count(0)", 6, "pins(5, 0, 1)", 0, "pins(0, 0, 1)", 0);
        s.none("of(6, 0)", "of(-1, 0)", "of(MIN, 0)", "of(MAX, 0)");
        s.refuses("pins(6, 0, 0)", -2);
        s.refuses("pins(-1, 0, 0)", -2);
        s.due("snap(0, 5)", 0, "pull(0, 0, 0)", 0);
    }

    private static void bars() {
        says("at BARS 0 .. 7 each");
        Scene s = new Scene("box(1)");
        for (int bar = 0; bar < 8; bar++) {
            s.due("pins(0, " + bar + ", " + (1 << bar) + ")", 0);
        }
        for (int bar = 0; bar < 8; bar++) {
            s.due("of(0, " + (7 + bar) + ")", 1 << bar);
        }
        s.none("of(0, 15)");
        for (String bar : new String[] {"-1", "8", "MIN", "MAX"}) {
            s.refuses("pins(0, " + bar + ", 0)", -1);
            s.refuses("pull(0, " + bar + ", 0)", -1);
            s.refuses("hear(" + bar + ", 0, 0)", -1);
        }
        s.due("pull(0, 0, 0)", 7, "pull(7, 7, 0)", 6, "hear(0, 0, 0)", 1, "hear(7, 0, 0)", 2);
    }

    private static void teeth() {
        says("a set of TEETH 0 .. 7 that PINS sound (as bits; none at first)");
        Scene s = new Scene("box(1)");
        for (int bar = 0; bar < 8; bar++) {
            s.due("of(0, " + (7 + bar) + ")", 0);
        }
        s.due("of(0, 1)", 0, "pins(0, 3, 0)", 0, "pins(0, 3, 255)", 0, "pins(0, 3, 255)", 255);
        s.refuses("pins(0, 3, 256)", -1);
        s.refuses("pins(0, 3, -1)", -1);
        s.refuses("pins(0, 3, MIN)", -1);
        s.refuses("pins(0, 3, MAX)", -1);
        s.due("pins(0, 3, 129)", 255, "of(0, 1)", 2, "pull(0, 3, 0)", 1, "pull(7, 3, 0)", 0);

        says("BROKEN TEETH (none at first)");
        Scene t = new Scene("box(1)");
        t.due("of(0, 2)", 0);
        for (String tooth : new String[] {"-1", "8", "MIN", "MAX"}) {
            t.refuses("snap(" + tooth + ", 0)", -1);
            t.refuses("pull(" + tooth + ", 0, 0)", -1);
            t.refuses("hear(0, " + tooth + ", 0)", -1);
        }
        for (int tooth = 0; tooth < 8; tooth++) {
            t.due("snap(" + tooth + ", 0)", 0, "of(0, 2)", (2 << tooth) - 1);
        }
        t.due("hear(0, 0, 0)", 1, "hear(0, 7, 0)", 2);
    }

    private static void springs() {
        says("SPRING 0 .. 20");
        Scene s = new Scene();
        s.refuses("box(-1)", -1);
        s.refuses("box(21)", -1);
        s.refuses("box(MIN)", -1);
        s.refuses("box(MAX)", -1);
        s.due("box(0)", 0, "of(0, 0)", 0, "box(20)", 1, "of(1, 0)", 20);
    }

    private static void mates() {
        says("a SUITOR it is wed to or none, LEFT (years; 0 unwed)");
        Scene s = new Scene("box(1)", "box(3)", "suitor(0, 0)", "suitor(0, 0)");
        s.due("of(0, 3)", -1, "of(0, 4)", 0, "at(0, 2)", -1);
        s.due("wed(0, 1)", 1, "of(0, 3)", 1, "of(0, 4)", 1, "of(1, 3)", -1, "of(1, 4)", 0);
        s.due("pass()", 1, "of(0, 3)", -1, "of(0, 4)", 0, "at(1, 2)", -1);
        s.due("wed(1, 0)", 3, "of(1, 3)", 0, "of(1, 4)", 3, "undo()", 2, "of(1, 3)", -1, "of(1, 4)", 0);
    }

    private static void notes() {
        says("A NOTE: a TOOTH that a PIN sounds at a BAR, which is not BROKEN.");
        Scene s = new Scene("box(1)", "suitor(0, 0)", "pins(0, 0, 129)", "pins(0, 7, 129)");
        s.due("of(0, 1)", 4, "asks(0, 0, 0)", 2, "snap(0, 0)", 2, "asks(0, 0, 0)", 0, "snap(7, 0)", 0);
        s.due("of(0, 7)", 129, "of(0, 14)", 129, "of(0, 1)", 0, "pins(0, 3, 255)", 0, "of(0, 10)", 255, "of(0, 1)", 6);
        s.due("row 0 4 255", 1, "of(0, 11)", 255, "of(0, 1)", 12, "asks(0, 0, 0)", 0);
        Scene full = new Scene("box(1)");
        for (int bar = 0; bar < 8; bar++) {
            full.due("pins(0, " + bar + ", 255)", 0, "of(0, 1)", 8 * bar + 8);
        }
    }

    private static void sixSuitors() {
        says("SUITORS 0 .. 5 (6 at most): EAR, a TOOTH, WANTS 0 .. 60 years.");
        Scene s = new Scene();
        for (String ear : new String[] {"-1", "8", "MIN", "MAX"}) {
            s.refuses("suitor(" + ear + ", 0)", -1);
        }
        for (String wants : new String[] {"-1", "61", "MIN", "MAX"}) {
            s.refuses("suitor(0, " + wants + ")", -1);
        }
        s.none("at(0, 0)");
        s.due("suitor(0, 0)", 0, "at(0, 0)", 0, "at(0, 1)", 0, "suitor(7, 60)", 1, "at(1, 0)", 7, "at(1, 1)", 60);
        for (int i = 2; i < 6; i++) {
            s.none("at(" + i + ", 0)");
            s.due("suitor(" + i + ", " + 10 * i + ")", i, "at(" + i + ", 0)", i, "at(" + i + ", 1)", 10 * i);
        }
        s.refuses("suitor(0, 0)", -5);
        s.refuses("suitor(7, 60)", -5);
        s.due("count(1)", 6, "at(0, 0)", 0, "at(5, 1)", 50);
        s.none("at(6, 0)", "at(-1, 0)", "at(MIN, 0)", "at(MAX, 0)");
    }

    private static void eightHeard() {
        says("HEARD, 8 at most: at a BAR a TOOTH sounded (1) or not (0).");
        Scene s = new Scene("box(1)", "pins(0, 0, 1)");
        for (String sounded : new String[] {"-1", "2", "MIN", "MAX"}) {
            s.refuses("hear(0, 0, " + sounded + ")", -1);
        }
        s.due("hear(0, 0, 1)", 1, "which()", 1);
        for (int i = 2; i < 8; i++) {
            s.due("hear(7, 7, 0)", i, "which()", 1);
        }
        s.due("hear(0, 0, 0)", 8, "which()", 0, "count(3)", 8);
        s.refuses("hear(0, 0, 1)", -5);
        s.refuses("hear(7, 7, 0)", -5);
        s.due("forget()", 8, "count(3)", 0, "hear(7, 7, 1)", 1, "which()", 0);
    }

    private static void terms() {
        says("TERMS: 0 YEAR 0 .. 999 (0 at first), 1 DAMP 0 .. 10 (2), 2 MOOD 0 .. 9 (0).");
        int[] most = {999, 10, 9};
        int[] first = {0, 2, 0};
        for (int what = 0; what < 3; what++) {
            String term = "terms(" + what + ", ";
            Scene s = new Scene();
            s.due("count(" + (13 + what) + ")", first[what]);
            s.refuses(term + "-1)", -1);
            s.refuses(term + (most[what] + 1) + ")", -1);
            s.refuses(term + "MIN)", -1);
            s.refuses(term + "MAX)", -1);
            s.due(term + most[what] + ")", first[what], "count(" + (13 + what) + ")", most[what]);
            s.due(term + "0)", most[what], "count(" + (13 + what) + ")", 0, term + "1)", 0);
            for (int other = 0; other < 3; other++) {
                s.due("count(" + (13 + other) + ")", other == what ? 1 : first[other]);
            }
        }
        Scene s = new Scene();
        for (String what : new String[] {"-1", "3", "MIN", "MAX"}) {
            s.refuses("terms(" + what + ", 0)", -1);
        }
    }

    private static void refusedByTheFirst() {
        says("The first of these in that order.");
        Scene none = new Scene();
        none.refuses("pins(0, 8, 0)", -1);
        none.refuses("pins(0, 0, 256)", -1);
        none.refuses("pull(8, 0, 0)", -1);
        none.refuses("pull(0, 8, 0)", -1);
        none.refuses("snap(8, 0)", -1);
        none.refuses("generations(-1, 1)", -1);
        none.refuses("generations(0, 61)", -1);
        none.refuses("back(2)", -1);
        none.refuses("back(-1)", -1);
        Scene full = new Scene("box(1)", "box(1)", "box(1)", "box(1)", "box(1)", "box(1)", "suitor(0, 0)", "suitor(0, 0)",
            "suitor(0, 0)", "suitor(0, 0)", "suitor(0, 0)", "suitor(0, 0)");
        full.refuses("box(21)", -1);
        full.refuses("box(-1)", -1);
        full.refuses("suitor(8, 0)", -1);
        full.refuses("suitor(0, 61)", -1);
        full.does("wed(0, 0)");
        full.refuses("wed(0, 6)", -2);
        full.refuses("wed(6, 0)", -2);
        full.refuses("wed(0, 0)", -3);
        for (int i = 0; i < 8; i++) {
            full.does("hear(0, 0, 0)");
        }
        full.refuses("hear(8, 0, 0)", -1);
        full.refuses("hear(0, 8, 0)", -1);
        full.refuses("hear(0, 0, 2)", -1);
        full.refuses("hear(0, 0, 0)", -5);
        full.does("law bars", "law bars", "law bars", "law bars", "law bars", "law bars");
        full.refuses("law nonsense", -5);
        full.refuses("law()", -5);
    }

    private static void refusedByEachAlone() {
        says("-1 a number that can't be; -2 there is no such BOX, SUITOR, LAW, IMAGE; -3 it can't be by what stands; "
            + "-5 no room; -6 a TEXT, a ROW that can't be.");
        Scene s = Scene.ofAll();
        s.refuses("box(21)", -1);
        s.refuses("pins(0, 8, 0)", -1);
        s.refuses("pins(3, 0, 0)", -2);
        s.refuses("suitor(8, 0)", -1);
        s.refuses("terms(3, 0)", -1);
        s.refuses("force(2)", -2);
        s.refuses("force(-2)", -2);
        s.refuses("pull(8, 0, 0)", -1);
        s.refuses("pull(0, 0, 3)", -2);
        s.refuses("pull(0, 0, 0)", -3);
        s.refuses("snap(8, 0)", -1);
        s.refuses("snap(0, 3)", -2);
        s.refuses("snap(1, 1)", -3);
        s.refuses("wed(3, 0)", -2);
        s.refuses("wed(0, 3)", -2);
        s.refuses("wed(0, 0)", -3);
        s.refuses("hear(0, 0, 2)", -1);
        s.refuses("generations(0, 0)", -1);
        s.refuses("image(2)", -1);
        s.refuses("back(2)", -1);
        s.refuses("back(1)", -2);
        s.refuses("orders pass;snap 1 of 1", -3, "count(6) 0", "fault() -1", "stopped() 1");
        s.refuses("orders pass 1", -6, "fault() 5", "stopped() -1");
        s.refuses("law bars bars", -6);
        s.refuses("law lasts", -6);
        s.refuses("law loses 9;", -6, "fault() 8");
        s.refuses("row()", -6);
        s.does("terms(0, 999)");
        s.refuses("pass()", -3);
        s.refuses("undo()", -3);
    }

    // ---- III ----

    private static void pulling() {
        says("To PULL a PIN that is there: it is not.");
        Scene s = new Scene("box(1)", "box(1)", "pins(0, 0, 1)", "pins(0, 7, 128)", "pins(1, 0, 1)");
        s.refuses("pull(1, 0, 0)", -3);
        s.refuses("pull(0, 1, 0)", -3);
        s.due("pull(0, 0, 0)", 1, "of(0, 7)", 0, "of(0, 14)", 128, "of(1, 7)", 1);
        s.refuses("pull(0, 0, 0)", -3);
        s.due("snap(7, 0)", 0, "pull(7, 7, 0)", 0, "of(0, 14)", 0);
        s.refuses("pull(7, 7, 0)", -3);
    }

    private static void snapping() {
        says("To SNAP a TOOTH that is not BROKEN: it is.");
        Scene s = new Scene("box(1)", "box(1)", "pins(0, 0, 3)", "pins(1, 0, 3)");
        s.due("snap(0, 0)", 1, "of(0, 2)", 1, "of(1, 2)", 0, "of(0, 7)", 3);
        s.refuses("snap(0, 0)", -3);
        s.due("snap(7, 0)", 1, "of(0, 2)", 129, "snap(0, 1)", 1);
    }

    private static void wedding() {
        says("To WED a BOX that is not wed to a SUITOR that is not, not BARRED, that LASTS 1 or more: LEFT is what it LASTS.");
        Scene s = new Scene("box(0)", "box(1)", "box(20)", "suitor(0, 9)", "suitor(1, 9)", "suitor(2, 9)");
        s.refuses("wed(0, 0)", -3);
        s.due("wed(1, 0)", 1, "of(1, 4)", 1, "count(2)", 1);
        s.refuses("wed(1, 0)", -3);
        s.refuses("wed(1, 1)", -3);
        s.refuses("wed(2, 0)", -3);
        s.due("law bars if suitor = 1;lasts 60", 0, "force(0)", -1);
        s.refuses("wed(2, 1)", -3);
        s.due("wed(2, 2)", 60, "of(2, 4)", 60, "force(-1)", 0, "of(2, 4)", 60, "wed(0, 1)", -3);
        s.due("law lasts 1", 1, "force(1)", -1, "wed(0, 1)", 1, "count(2)", 3);
    }

    private static void years() {
        says("SPRINGS of all BOXES LOSE (0 at least), all asked as it was ahead");
        Scene s = new Scene("box(0)", "box(8)", "box(9)", "box(10)", "law loses 9;loses spring if year = 1", "force(0)");
        s.due("pass()", 1, "of(0, 0)", 0, "of(1, 0)", 0, "of(2, 0)", 0, "of(3, 0)", 1);
        s.due("pass()", 2, "of(3, 0)", 0, "pass()", 3, "of(3, 0)", 0);

        says("LEFT of all that are wed is one less; at 0 they are wed no more; it is the next YEAR");
        Scene t = new Scene("box(1)", "box(2)", "box(5)", "suitor(0, 0)", "suitor(0, 0)", "suitor(0, 0)", "wed(0, 2)",
            "wed(1, 0)");
        t.due("pass()", 1, "of(0, 3)", -1, "of(0, 4)", 0, "at(2, 2)", -1, "of(1, 3)", 0, "of(1, 4)", 1, "of(2, 4)", 0);
        t.due("count(2)", 1, "wed(2, 2)", 5, "pass()", 2, "of(1, 3)", -1, "of(2, 4)", 4, "count(2)", 1, "wed(0, 0)", 1);
    }

    private static void lastYear() {
        says("(at 999 it can't be)");
        Scene s = new Scene("box(3)", "suitor(0, 0)", "law loses 1", "force(0)", "terms(0, 998)", "wed(0, 0)");
        s.due("pass()", 999, "of(0, 0)", 2, "of(0, 4)", 2);
        s.refuses("pass()", -3);
        s.due("count(13)", 999, "undo()", 3, "count(13)", 998, "pass()", 999);
        s.refuses("pass()", -3);
    }

    private static void whichBox() {
        says("WHICH BOX it is: those of which all HEARD is so (a TOOTH sounded, if there is that NOTE).");
        Scene s = new Scene();
        s.due("which()", 0, "hear(0, 0, 0)", 1, "which()", 0, "forget()", 1);
        for (int i = 0; i < 6; i++) {
            s.due("box(1)", i, "which()", (2 << i) - 1);
        }
        s.does("pins(0, 0, 1)", "pins(5, 0, 1)", "pins(5, 7, 128)", "pins(3, 7, 128)");
        s.due("hear(0, 0, 1)", 1, "which()", 33, "hear(7, 7, 0)", 2, "which()", 1, "hear(7, 7, 1)", 3, "which()", 0);
        s.due("forget()", 3, "hear(7, 7, 1)", 1, "which()", 40, "snap(7, 5)", 1, "which()", 8);
        s.due("hear(0, 0, 0)", 2, "which()", 8, "forget()", 2, "hear(7, 7, 0)", 1, "which()", 55);
    }

    private static void listening() {
        says("To LISTEN for: the BAR and TOOTH by which of these the more (that have that NOTE, that have not) are as few as "
            + "can be; the lowest BAR, then TOOTH.");
        Scene s = new Scene("box(1)");
        s.due("listen(0)", 0, "listen(1)", 1, "box(1)", 1, "listen(0)", 0, "listen(1)", 2);
        s.due("pins(1, 7, 128)", 0, "listen(0)", 77, "listen(1)", 1);
        s.due("pins(0, 7, 1)", 0, "listen(0)", 70, "pins(0, 3, 36)", 0, "listen(0)", 32, "pins(1, 0, 128)", 0, "listen(0)", 7);
        s.due("snap(7, 1)", 0, "listen(0)", 32, "snap(2, 0)", 2, "listen(0)", 35);
        Scene six = new Scene("box(1)", "box(1)", "box(1)", "box(1)", "box(1)", "box(1)");
        six.due("listen(1)", 6, "pins(4, 2, 8)", 0, "listen(0)", 23, "listen(1)", 5, "pins(0, 5, 16)", 0, "pins(1, 5, 16)", 0);
        six.due("listen(0)", 54, "listen(1)", 4, "pins(2, 5, 16)", 0, "listen(1)", 3, "pins(3, 5, 16)", 0, "listen(1)", 4);
        six.due("hear(2, 3, 1)", 1, "which()", 16, "listen(0)", 0, "listen(1)", 1);
    }

    private static void steady() {
        says("each BOX asks SUITORS one after the other, first him whose WANTS are nearest to what it LASTS (the lowest of alike "
            + "ones), each keeps of all that ask him the one he LIKES most (the lowest of alike ones)");
        Scene s = new Scene("box(5)", "suitor(0, 8)", "suitor(0, 3)", "suitor(0, 7)");
        s.due("steady(0)", 1);
        Scene above = new Scene("box(5)", "suitor(0, 9)", "suitor(0, 3)", "suitor(0, 6)", "suitor(0, 6)");
        above.due("steady(0)", 2);
        Scene alike = new Scene("box(5)", "suitor(0, 7)", "suitor(0, 3)", "box(5)", "box(5)");
        alike.due("steady(0)", 0, "steady(1)", 1, "steady(2)", -1, "pins(2, 0, 1)", 0, "steady(2)", 0, "steady(0)", 1);
        alike.due("steady(1)", -1, "pins(1, 7, 1)", 0, "steady(1)", 0, "steady(2)", 1, "steady(0)", -1);
        Scene full = new Scene("law likes box", "law likes 5-box");
        for (int i = 0; i < 6; i++) {
            full.does("box(5)", "suitor(" + i + ", 5)");
        }
        for (int i = 0; i < 6; i++) {
            full.due("steady(" + i + ")", i);
        }
        full.does("force(0)");
        for (int i = 0; i < 6; i++) {
            full.due("steady(" + i + ")", 5 - i);
        }

        says("till none asks any more: whom each has then.");
        // Box 0 asks 0 and is put off for box 1, asks 1 and is put off for box 2, asks 2; the last box asks all in vain.
        Scene chain = new Scene("box(5)", "box(5)", "box(7)", "box(5)", "suitor(0, 5)", "suitor(1, 7)", "suitor(2, 20)",
            "law likes 9-box;likes 50 if box=1 and suitor=0;likes 50 if box=2 and suitor=1", "force(0)");
        chain.due("steady(0)", 2, "steady(1)", 0, "steady(2)", 1, "steady(3)", -1);

        says("STEADY: of BOXES and SUITORS that are not wed (none BARRED)");
        full.does("force(1)", "wed(0, 3)");
        full.due("steady(0)", -1, "steady(1)", 0, "steady(3)", 2, "steady(4)", 4, "steady(5)", 5);
        full.due("law likes box;bars if suitor=0;bars if box=5 and suitor<5", 2, "force(2)", 1);
        full.due("steady(5)", 5, "steady(4)", 1, "steady(3)", 2, "steady(2)", 4, "steady(1)", -1, "steady(0)", -1);
    }

    private static void about() {
        says("ABOUT: the same ones matched, each to one at most, WANTS and LASTS differing by d at most");
        Scene s = new Scene("box(10)", "suitor(0, 13)");
        s.due("about(2, 0)", 0, "about(2, 1)", 0, "about(2, 2)", 100, "about(3, 0)", 1, "about(3, 1)", 3, "about(3, 2)", 0);
        s.due("suitor(0, 8)", 1, "about(1, 0)", 0, "about(2, 0)", 1, "about(2, 2)", 1, "about(3, 2)", 1, "about(60, 0)", 1);
        s.due("box(11)", 1, "about(2, 3)", 0, "wed(0, 1)", 10, "about(60, 0)", 1, "about(60, 2)", -1, "about(60, 3)", 0);
        s.due("law bars if box=1", 0, "force(0)", -1, "about(60, 0)", 0, "about(60, 3)", 100);
        Scene far = new Scene("box(0)", "suitor(0, 60)");
        far.due("about(59, 0)", 0, "about(60, 0)", 1, "about(60, 1)", 60, "law lasts 60", 0, "force(0)", -1, "about(0, 0)", 1);

        says("the most, then the least differences together; the first as a row of SUITORS by BOXES (100: none, behind all)");
        Scene most = new Scene("box(10)", "box(12)", "suitor(0, 11)", "suitor(0, 9)");
        most.due("about(1, 0)", 2, "about(1, 1)", 2, "about(1, 2)", 1, "about(1, 3)", 0);
        most.due("about(0, 0)", 0, "about(0, 2)", 100, "about(0, 3)", 100);
        Scene least = new Scene("box(10)", "box(12)", "suitor(0, 12)", "suitor(0, 10)");
        least.due("about(60, 0)", 2, "about(60, 1)", 0, "about(60, 2)", 1, "about(60, 3)", 0);
        Scene row = new Scene("box(7)", "box(7)", "suitor(0, 7)");
        row.due("about(0, 2)", 0, "about(0, 3)", 100, "suitor(0, 7)", 1, "about(0, 2)", 0, "about(0, 3)", 1);
        Scene gap = new Scene("box(10)", "box(0)", "box(20)", "suitor(0, 10)", "suitor(0, 20)");
        gap.due("about(0, 0)", 2, "about(0, 1)", 0, "about(0, 2)", 0, "about(0, 3)", 100, "about(0, 4)", 1);
        gap.does("suitor(0, 60)", "suitor(0, 60)", "suitor(0, 1)");
        gap.due("about(1, 0)", 3, "about(1, 1)", 1, "about(1, 3)", 4, "about(0, 3)", 100,
            "law lasts 60 if box=0;lasts 1 if box=1", 0);
        gap.due("force(0)", -1, "about(0, 0)", 3, "about(0, 2)", 2, "about(0, 3)", 4,
            "law lasts 30 if box=0;lasts 1 if box=1", 1);
        gap.due("force(1)", 0, "about(0, 0)", 2, "about(0, 2)", 100, "about(0, 3)", 4, "about(0, 4)", 1);
        Scene full = new Scene();
        for (int i = 0; i < 6; i++) {
            full.does("box(0)", "suitor(0, 60)");
        }
        full.due("about(59, 0)", 0, "about(60, 0)", 6, "about(60, 1)", 360, "about(60, 2)", 0, "about(60, 7)", 5);
        // Fewer boxes than were asked of before.
        Scene fewer = new Scene("box(7)", "suitor(0, 7)", "suitor(0, 8)", "image(0)", "box(8)", "box(7)", "box(8)");
        fewer.due("about(1, 0)", 2, "about(1, 1)", 0, "back(0)", 0, "about(1, 0)", 1, "about(1, 1)", 0, "about(1, 2)", 0);
    }

    private static void rules() {
        says("A RULE d 0 .. 8: of each two BARS next to one another (b and b + 1) the sets of PINS differ in d TEETH at most.");
        Scene steps = new Scene("box(1)");
        for (int bar = 0; bar < 8; bar++) {
            steps.does("pins(0, " + bar + ", " + ((2 << bar) - 1) + ")");
        }
        steps.due("keep(0, 1, -1)", 0, "keep(0, 0, -1)", 28, "keep(0, 1, 0)", 1, "keep(0, 0, 0)", 255);
        steps.due("snap(0, 0)", 28, "keep(0, 1, -1)", 0);
        Scene s = new Scene("box(1)", "pins(0, 0, 255)");
        s.due("keep(0, 8, -1)", 0, "keep(0, 8, 0)", 255, "keep(0, 8, 1)", 0);
        s.due("keep(0, 7, -1)", 1, "keep(0, 7, 0)", 255, "keep(0, 7, 1)", 1, "keep(0, 7, 2)", 0);
        s.due("keep(0, 0, -1)", 56, "keep(0, 0, 7)", 255);
        for (int tooth = 0; tooth < 8; tooth++) {
            s.due("snap(" + tooth + ", 0)", 7 - tooth, "keep(0, 0, -1)", 56, "keep(0, 7, -1)", 1, "keep(0, 8, 0)", 255);
        }
        s.none("keep(0, -1, -1)", "keep(0, 9, -1)", "keep(0, MIN, -1)", "keep(0, MAX, -1)");
        Scene last = new Scene("box(1)", "pins(0, 7, 255)");
        last.due("keep(0, 7, -1)", 1, "keep(0, 7, 6)", 1, "keep(0, 7, 5)", 0, "keep(0, 0, -1)", 56);

        says("KEPT: the fewest PINS more by which a BOX keeps a RULE; the first as a row of sets by BARS.");
        Scene between = new Scene("box(1)", "pins(0, 3, 6)", "pins(0, 4, 24)");
        between.due("keep(0, 4, -1)", 0, "keep(0, 3, -1)", 1, "keep(0, 3, 2)", 0, "keep(0, 3, 3)", 6, "keep(0, 3, 4)", 26);
        between.due("keep(0, 3, 5)", 0, "keep(0, 2, -1)", 4, "keep(0, 2, 2)", 0, "keep(0, 2, 3)", 6, "keep(0, 2, 4)", 30,
            "keep(0, 2, 5)", 6);
        Scene none = new Scene("box(1)");
        none.due("keep(0, 0, -1)", 0, "keep(0, 0, 0)", 0, "keep(0, 0, 7)", 0);
    }

    private static void turns() {
        says("A TURN t 0 .. 7 of two BOXES: BAR b of the one with BAR (b and t) modulo 8 of the other one");
        Scene s = new Scene("box(1)", "box(1)", "pins(0, 7, 1)", "pins(1, 0, 2)");
        for (int turn = 0; turn < 8; turn++) {
            s.due("clash(0, 1, " + turn + ")", turn == 1 ? 1 : 0, "clash(1, 0, " + turn + ")", turn == 7 ? 1 : 0);
        }
        s.none("clash(0, 1, -1)", "clash(0, 1, 8)", "clash(0, 1, MIN)", "clash(0, 1, MAX)");
        s.due("pins(1, 6, 2)", 0, "clash(0, 1, 7)", 1, "clash(0, 1, 6)", 0);

        says("a CLASH for each NOTE of the one with a NOTE of the other one there, the TEETH being next to one another");
        for (int one = 0; one < 8; one++) {
            Scene t = new Scene("box(1)", "box(1)", "pins(0, 2, " + (1 << one) + ")");
            for (int other = 0; other < 8; other++) {
                t.does("pins(1, 2, " + (1 << other) + ")");
                t.due("clash(0, 1, 0)", Math.abs(one - other) == 1 ? 1 : 0, "clash(0, 1, 1)", 0);
            }
            t.due("pins(1, 2, 255)", 128, "clash(0, 1, 0)", one == 0 || one == 7 ? 1 : 2);
            t.due("snap(" + one + ", 0)", 0, "clash(0, 1, 0)", 0);
        }
        Scene full = new Scene("box(1)", "box(1)");
        for (int bar = 0; bar < 8; bar++) {
            full.does("pins(0, " + bar + ", 255)", "pins(1, " + bar + ", 255)");
        }
        full.due("clash(0, 1, 0)", 112, "clash(1, 0, 7)", 112, "snap(0, 1)", 56, "clash(0, 1, 0)", 104, "snap(3, 1)", 48);
        full.due("clash(0, 1, 0)", 88);
    }

    private static void bestTurn() {
        says("BEST: the TURN with the fewest CLASHES; the lowest.");
        Scene s = new Scene("box(1)", "box(1)");
        s.due("best(0, 1, 0)", 0, "best(0, 1, 1)", 0, "pins(0, 0, 1)", 0);
        for (int bar = 0; bar < 7; bar++) {
            s.does("pins(1, " + bar + ", 2)");
            s.due("best(0, 1, 0)", bar + 1, "best(0, 1, 1)", 0);
        }
        s.due("best(1, 0, 0)", 1, "pins(1, 7, 2)", 0, "best(0, 1, 0)", 0, "best(0, 1, 1)", 1);
    }

    private static void filing() {
        says("FILED: the fewest TEETH of both (so that they would be BROKEN) by which there are no CLASHES at a TURN; the first by "
            + "those of the one, then of the other one, as bits.");
        Scene s = new Scene("box(1)", "box(1)");
        s.due("filed(0, 1, 0, 0)", 0, "filed(0, 1, 0, 1)", 0, "filed(0, 1, 0, 2)", 0);
        s.does("pins(0, 0, 2)", "pins(1, 0, 5)");
        s.due("filed(0, 1, 0, 0)", 1, "filed(0, 1, 0, 1)", 2, "filed(0, 1, 0, 2)", 0);
        s.due("filed(1, 0, 0, 0)", 1, "filed(1, 0, 0, 1)", 0, "filed(1, 0, 0, 2)", 2, "filed(0, 1, 1, 0)", 0);
        s.does("pins(1, 0, 1)");
        s.due("filed(0, 1, 0, 0)", 1, "filed(0, 1, 0, 1)", 0, "filed(0, 1, 0, 2)", 1);
        s.due("snap(1, 0)", 0, "filed(0, 1, 0, 0)", 0);
        Scene full = new Scene("box(1)", "box(1)", "pins(0, 7, 255)", "pins(1, 6, 255)");
        full.due("filed(0, 1, 7, 0)", 8, "filed(0, 1, 7, 1)", 0, "filed(0, 1, 7, 2)", 255, "filed(0, 1, 6, 0)", 0);
        full.does("pins(0, 7, 170)");
        full.due("filed(0, 1, 7, 0)", 4, "filed(0, 1, 7, 1)", 0, "filed(0, 1, 7, 2)", 85);
    }

    private static void sharing() {
        says("SHARES: all BOXES to k sisters so that the least LASTS of one's BOXES together is as much as can be; the first as a "
            + "row of sisters by BOXES.");
        Scene s = new Scene();
        s.due("shares(1, 0)", 0, "shares(3, 0)", 0);
        s.none("shares(1, 1)", "shares(3, 1)");
        s.due("box(20)", 0, "shares(1, 0)", 20, "shares(1, 1)", 0, "shares(2, 0)", 0, "shares(2, 1)", 0, "shares(3, 0)", 0);
        s.due("box(20)", 1, "shares(2, 0)", 20, "shares(2, 1)", 0, "shares(2, 2)", 1, "shares(3, 0)", 0, "shares(3, 2)", 0);
        s.due("box(20)", 2, "shares(3, 0)", 20, "shares(3, 1)", 0, "shares(3, 2)", 1, "shares(3, 3)", 2, "shares(2, 0)", 20);
        s.due("shares(2, 2)", 0, "shares(2, 3)", 1);
        s.does("box(20)", "box(20)", "box(20)");
        s.due("shares(1, 0)", 120, "shares(2, 0)", 60, "shares(3, 0)", 40);
        for (int box = 0; box < 6; box++) {
            s.due("shares(1, " + (1 + box) + ")", 0);
            s.due("shares(2, " + (1 + box) + ")", box / 3);
            s.due("shares(3, " + (1 + box) + ")", box / 2);
        }
        s.none("shares(3, 7)", "shares(3, -1)", "shares(0, 0)", "shares(4, 0)");
        s.due("law lasts 60 if box=5;lasts 0 if box<5", 0, "force(0)", -1, "shares(2, 0)", 0, "shares(2, 6)", 0,
            "shares(1, 0)", 60);
    }

    private static void again() {
        says("AGAIN: BARS (by b, then c above it) of a BOX with the same NOTES.");
        Scene s = new Scene("box(1)");
        s.due("again(0, -1)", 28, "again(0, 0)", 1, "again(0, 6)", 7, "again(0, 7)", 12, "again(0, 26)", 57, "again(0, 27)", 67);
        s.none("again(0, 28)", "again(0, MAX)");
        for (int bar = 1; bar < 8; bar++) {
            s.does("pins(0, " + bar + ", " + bar + ")");
        }
        s.due("again(0, -1)", 0);
        s.none("again(0, 0)");
        s.due("snap(0, 0)", 8, "again(0, -1)", 4, "again(0, 0)", 1, "again(0, 1)", 23, "again(0, 2)", 45, "again(0, 3)", 67);
        s.none("again(0, 4)");
    }

    private static void ending() {
        says("ENDS: couples that are wed yet n YEARS on, nothing else being done: LEFT more than n.");
        Scene s = new Scene("box(0)", "box(1)", "box(0)", "suitor(0, 0)", "suitor(0, 0)", "law lasts 60 if box=0", "force(0)");
        s.due("ends(0)", 0, "wed(0, 0)", 60, "wed(1, 1)", 1, "ends(0)", 3, "ends(1)", 1, "ends(59)", 1, "ends(60)", 0);
        s.due("pass()", 1, "ends(0)", 1, "ends(58)", 1, "ends(59)", 0);
        s.none("ends(-1)", "ends(61)", "ends(MIN)", "ends(MAX)");
        Scene six = new Scene();
        for (int i = 0; i < 6; i++) {
            six.does("box(" + (i + 1) + ")", "suitor(0, 0)");
        }
        for (int i = 0; i < 6; i++) {
            six.due("wed(" + i + ", " + (5 - i) + ")", i + 1, "ends(0)", (2 << i) - 1);
        }
        for (int n = 1; n <= 6; n++) {
            six.due("ends(" + n + ")", 63 >> n << n);
        }
    }

    private static void standing() {
        says("SPRING STANDS: the chance, of 1,000,000,000,000 parts, that the SPRING of a BOX is 1 or more behind n YEARS, in each "
            + "of which it loses one in DAMP of ten");
        long all = 1000000000000L;
        Scene s = new Scene("box(0)", "box(1)", "box(20)");
        s.due("stands(0, 0)", 0, "stands(0, 60)", 0, "stands(1, 0)", all, "stands(1, 1)", all / 10 * 8, "stands(2, 0)", all);
        s.due("stands(2, 12)", all, "stands(1, 60)", 1532494, "stands(2, 60)", 989331701857L);
        s.due("terms(1, 0)", 2, "stands(1, 60)", all, "stands(2, 60)", all, "stands(0, 60)", 0);
        s.due("terms(1, 10)", 0, "stands(1, 0)", all, "stands(1, 1)", 0, "stands(2, 19)", all, "stands(2, 20)", 0,
            "stands(2, 60)", 0);

        says("YEAR by YEAR, by how much it has");
        Scene ten = new Scene("box(2)", "terms(1, 5)");
        ten.due("stands(0, 1)", all, "stands(0, 2)", 750000000000L, "stands(0, 3)", 500000000000L, "stands(0, 4)", 312500000000L);

        says("each part times the rest by ten, and times DAMP by ten to one less, both cut; at 0 it stays.");
        s.due("terms(1, 3)", 10, "stands(1, 13)", 9688901040L, "stands(2, 60)", 669159123380L);
        s.due("terms(1, 9)", 3, "stands(1, 12)", 1, "stands(1, 13)", 0, "stands(2, 19)", 999999999909L,
            "stands(2, 20)", 878423345307L);
        s.due("terms(1, 1)", 9, "stands(1, 60)", 1797010296L, "terms(1, 5)", 1, "stands(2, 60)", 3108801147L);
    }

    private static void compared() {
        says("COMPARED: what all BOXES LAST together by a LAW in place of that in FORCE (NONE: none).");
        Scene s = new Scene("law lasts 60", "law lasts 1", "law lasts 0");
        s.due("compare(-1)", 0, "compare(0)", 0);
        s.does("box(20)", "box(20)", "box(0)", "box(1)", "box(2)", "box(3)", "force(1)");
        s.due("compare(-1)", 46, "compare(0)", 360, "compare(1)", 6, "compare(2)", 0, "count(12)", 1);
        s.none("compare(3)", "compare(-2)", "compare(MIN)", "compare(MAX)");
    }

    // ---- IV; draws were reckoned apart ----

    private static Scene painted(int boxes, int spring) {
        Scene s = new Scene();
        for (int box = 0; box < boxes; box++) {
            s.does("box(" + spring + ")");
            for (int bar = 0; bar < 8; bar++) {
                s.does("pins(" + box + ", " + bar + ", 255)");
            }
        }
        return s;
    }

    private static void draws() {
        says("at 0 that BOX's PIN of that BAR (the second), TOOTH (the third) is PULLED, if there is one, at 1 that TOOTH (the third) "
            + "is SNAPPED, if it is not, at 2 its SPRING is one less (0 at least)");
        // Seed 1 draws box 0 of one, bar 7, tooth 6, then 0: a pin is pulled.
        Scene pin = painted(1, 5);
        pin.due("generations(1, 1)", 0, "drawn(0, 0)", 63, "drawn(0, 1)", 5, "pull(6, 7, 0)", 63, "generations(1, 1)", 0);
        pin.due("drawn(0, 0)", 63, "undo()", 0, "snap(6, 0)", 56, "generations(1, 1)", 0, "drawn(0, 0)", 56);
        // Seed 0 draws box 0 of one, bar 1, tooth 1, then 1: a tooth is snapped.
        Scene tooth = painted(1, 5);
        tooth.due("generations(0, 1)", 0, "drawn(0, 0)", 56, "drawn(0, 1)", 5, "snap(1, 0)", 56, "generations(0, 1)", 0);
        tooth.due("drawn(0, 0)", 56, "of(0, 1)", 56);
        // Seed 7 draws box 0 of one, bar 5, tooth 4, then 2: the spring is one less.
        Scene spring = painted(1, 1);
        spring.due("generations(7, 1)", 0, "drawn(0, 0)", 64, "drawn(0, 1)", 0, "of(0, 0)", 1);
        Scene no = painted(1, 0);
        no.due("generations(7, 1)", 0, "drawn(0, 1)", 0, "drawn(0, 0)", 64);

        says("DRAWS of BOXES, of 8, of 8, of 3");
        // Of two boxes seed 2 draws box 1, bar 2, tooth 3, then 2; seed 9 draws box 0, bar 1, tooth 1, then 0.
        Scene two = painted(2, 5);
        two.due("generations(2, 1)", 0, "drawn(0, 1)", 5, "drawn(1, 1)", 4, "drawn(0, 0)", 64, "drawn(1, 0)", 64);
        two.due("generations(9, 1)", 0, "drawn(0, 0)", 63, "drawn(1, 0)", 64, "pull(1, 1, 0)", 63, "generations(9, 1)", 0,
            "drawn(0, 0)", 63);
        // Of one box seed 0 draws twice: bar 1, tooth 1, then 1; bar 6, tooth 1, then 1 again.
        painted(1, 5).due("generations(0, 2)", 0, "drawn(0, 0)", 56);

        says("a DRAW of m: s becomes (s times 1103 and 12345) modulo 1,000,003, it is s modulo m");
        // Of six boxes seed 4 draws box 5, then 2; seed 3 box 0, bar 0, tooth 0, then 0.
        Scene six = painted(6, 5);
        six.due("generations(4, 1)", 0, "drawn(5, 1)", 4, "drawn(4, 1)", 5, "generations(3, 1)", 0, "drawn(0, 0)", 63);
        six.due("drawn(5, 1)", 5, "drawn(5, 0)", 64);
    }

    private static void generations() {
        says("GENERATIONS with a SEED, n 1 .. 60, on paper: s is the SEED (0 .. 1,000,000)");
        Scene s = painted(1, 20);
        for (String wrong : new String[] {"-1, 1", "1000001, 1", "MIN, 1", "MAX, 1", "0, 0", "0, 61", "0, -1", "0, MIN",
            "0, MAX"}) {
            s.refuses("generations(" + wrong + ")", -1);
        }
        s.does("suitor(0, 0)", "law lasts 60", "force(0)", "wed(0, 0)", "force(-1)");
        s.due("generations(0, 1)", 0, "drawn(0, 2)", 59, "drawn(0, 0)", 56);
        // Seed 1,000,000 draws box 0, bar 2, tooth 2, then 1.
        s.due("generations(1000000, 1)", 0, "drawn(0, 0)", 56, "generations(0, 59)", 0, "drawn(0, 2)", 1);
        s.due("generations(0, 60)", 1, "drawn(0, 2)", 0);
        s.stays("generations(0, 60)", 1);
        s.due("of(0, 4)", 60, "of(0, 1)", 64, "of(0, 2)", 0, "of(0, 0)", 20, "count(13)", 0, "count(5)", 1, "count(2)", 1);

        says("(at YEAR 999 it ends)");
        Scene last = painted(1, 20);
        last.does("suitor(0, 0)", "terms(0, 998)", "law loses 3", "force(0)", "wed(0, 0)");
        // A second time by seed 0 would draw tooth 1 again; the years left tell the times.
        last.due("generations(0, 60)", 0, "drawn(0, 2)", 35, "drawn(0, 1)", 17, "drawn(0, 0)", 56, "pass()", 999);
        last.due("generations(0, 60)", 0, "drawn(0, 2)", 35, "drawn(0, 1)", 17, "drawn(0, 0)", 64);

        says("then the YEAR passes.");
        Scene lose = painted(2, 9);
        lose.does("suitor(0, 0)", "suitor(0, 0)", "law lasts 1;loses 9 if year=1", "force(0)", "wed(0, 0)", "wed(1, 1)");
        lose.due("generations(0, 1)", 2, "drawn(0, 1)", 9, "drawn(0, 2)", 0, "generations(0, 2)", 2, "drawn(0, 1)", 0,
            "drawn(1, 1)", 0);
    }

    private static void rows() {
        says("A ROW: the TAPE's bytes by threes: a BOX, a BAR, a set (a byte without sign): its PINS there; one that can't be, one "
            + "within which the TAPE ends is RUST: nothing.");
        Scene s = new Scene("box(1)", "box(1)");
        s.due("row 0 0 0 0 0 255 1 7 255 1 7 128", 4, "rust()", 0, "of(0, 7)", 255, "of(1, 14)", 128, "of(0, 1)", 8,
            "of(1, 1)", 1);
        s.due("row 2 0 1 255 0 1 0 8 1 0 255 1 1 0 7", 1, "rust()", 4, "of(1, 7)", 7, "of(0, 1)", 8, "of(1, 1)", 4);
        s.due("row 0 1 1 0", 1, "rust()", 1, "of(0, 8)", 1, "of(0, 7)", 255);
        s.due("row 0 1 2 0 2", 1, "rust()", 1, "of(0, 8)", 2, "of(0, 9)", 0);
        s.due("row 0 1 3 0 2 4", 2, "rust()", 0, "of(0, 8)", 3, "of(0, 9)", 4);
        s.due("row 0", 0, "rust()", 1, "row 9 9", 0, "rust()", 1, "row 9 9 9", 0, "rust()", 1, "row 9 9 9 9", 0, "rust()", 2);
        s.due("box(1)", 2, "row 2 0 1", 1, "rust()", 0, "of(2, 7)", 1);
        Scene none = new Scene();
        none.due("row 0 0 1", 0, "rust()", 1, "box(1)", 0, "of(0, 7)", 0);
        Scene six = new Scene("box(1)", "box(1)", "box(1)", "box(1)", "box(1)", "box(1)");
        six.due("row 5 7 1 6 0 1", 1, "rust()", 1, "of(5, 14)", 1, "pins(5, 7, 0)", 1);
    }

    private static void images() {
        says("IMAGES 0, 1 keep all but the TAPE, FAULT, RUST, where ORDERS stopped, what can be undone (nothing, behind back()), the "
            + "latest GENERATIONS");
        Scene s = Scene.ofAll();
        s.does("box(20)", "suitor(1, 1)", "law lasts 1", "force(-1)", "hear(7, 7, 0)", "terms(1, 9)", "terms(2, 8)",
            "pull(1, 1, 0)",
            "orders pass;pass;wed 0 to 9", "law bars;;bars", "row 9 9 9 9 9 9 9 9 9", "snap(7, 0)", "generations(3, 2)",
                "tape pass;pass");
        s.due("drawn(3, 1)", 20, "back(0)", 0);
        s.due("count(0)", 3, "count(1)", 3, "count(2)", 0, "count(3)", 1, "count(4)", 2, "count(12)", -1, "count(13)", 0,
            "count(14)", 2);
        s.due("count(15)", 0, "of(0, 0)", 9, "of(0, 2)", 0, "of(0, 7)", 5, "of(0, 8)", 3, "of(0, 9)", 9, "of(1, 2)", 0,
            "of(1, 0)", 4);
        s.due("compare(1)", 21, "at(2, 1)", 60, "which()", 3, "count(6)", 9, "fault()", 5, "rust()", 3, "stopped()", 2,
            "drawn(3, 1)", 20);
        s.due("count(5)", 0);
        s.refuses("undo()", -3);

        says("BACK to one all that it keeps is as it was then (IMAGES stay).");
        s.due("back(0)", 0, "count(0)", 3, "box(7)", 3, "image(1)", 0, "back(0)", 0, "count(0)", 3, "back(1)", 0, "of(3, 0)", 7);
        s.due("image(0)", 0, "box(8)", 4, "back(0)", 0, "count(0)", 4, "back(1)", 0, "count(0)", 4);
        // What is made anew behind back() has the numbers of what the other image keeps.
        Scene two = new Scene("image(0)", "box(3)", "box(20)", "pins(0, 0, 1)", "pins(0, 7, 128)", "suitor(1, 10)",
            "suitor(2, 20)",
            "law lasts 11", "law lasts 12", "force(1)", "hear(0, 0, 1)", "hear(7, 7, 1)", "snap(2, 0)", "wed(0, 1)", "pass()",
                "image(1)");
        two.due("back(0)", 0, "count(0)", 0, "box(9)", 0, "suitor(7, 59)", 0, "suitor(6, 58)", 1, "law lasts 41", 0,
            "law lasts 42", 1);
        two.due("hear(5, 5, 0)", 1, "hear(6, 6, 0)", 2, "pins(0, 0, 6)", 0, "snap(3, 0)", 2, "box(2)", 1, "terms(0, 77)", 0,
            "wed(1, 0)", 2);
        two.due("which()", 3, "back(1)", 0, "count(0)", 2, "of(0, 0)", 3, "of(1, 0)", 20, "of(0, 7)", 1, "of(0, 14)", 128,
            "of(0, 2)", 4);
        two.due("of(0, 3)", 1, "of(0, 4)", 11, "of(1, 3)", -1, "of(1, 4)", 0, "at(0, 0)", 1, "at(0, 1)", 10, "at(1, 0)", 2,
            "at(1, 1)", 20);
        two.due("count(12)", 1, "count(13)", 1, "of(0, 5)", 12, "compare(0)", 22, "which()", 1, "count(3)", 2, "count(4)", 2);
        two.due("back(0)", 0, "suitor(5, 5)", 0, "hear(7, 0, 1)", 1, "law lasts 51", 0, "back(1)", 0, "at(0, 0)", 1,
            "which()", 1, "compare(0)", 22);
    }
}
