/** Promises 1 to 43 of the document: for each sentence below their headings the bounds, the empty and the full case, and what is refused. */
public final class EdgesTest {
    private static final boolean[] told = new boolean[44];

    private static void says(int promise, String sentence) {
        told[promise] = true;
        Sentences.says("Promise " + promise + ":", sentence);
    }

    public static void main(String[] args) {
        newObject();
        boxes();
        boxesTold();
        pinsPut();
        suitors();
        suitorsTold();
        asking();
        terms();
        feeding();
        endingTheTape();
        rows();
        rust();
        laws();
        orders();
        faults();
        stops();
        forces();
        pulls();
        snaps();
        weddings();
        years();
        undoing();
        whatCantBeUndone();
        hearing();
        forgetting();
        whichBox();
        listening();
        steady();
        about();
        keeping();
        clashes();
        bestTurns();
        filing();
        shares();
        again();
        ends();
        stands();
        compare();
        generations();
        drawn();
        image();
        back();
        counts();
        status();
        for (int promise = 1; promise <= 43; promise++) {
            if (!told[promise]) {
                Sentences.wrong("no sentence of promise " + promise + " is tested");
            }
        }
        Sentences.end();
    }

    private static void newObject() {
        says(1, "`DowryBoxes()`: Valleys without boxes.");
        Scene s = new Scene();
        int[] counts = {0, 0, 0, 0, 0, 0, 0, 0, 0, 0, 0, 0, -1, 0, 2, 0};
        for (int what = 0; what < counts.length; what++) {
            s.stays("count(" + what + ")", counts[what]);
        }
        s.none("of(0, 0)", "at(0, 0)", "asks(0, 0, 0)", "fault()", "stopped()", "listen(0)", "listen(1)", "steady(0)",
            "about(0, 2)",
            "keep(0, 0, -1)", "clash(0, 1, 0)", "best(0, 1, 0)", "filed(0, 1, 0, 0)", "shares(1, 1)", "again(0, -1)",
                "stands(0, 0)",
            "compare(0)", "drawn(0, 0)", "end(1)");
        for (String zero : new String[] {"rust()", "status()", "which()", "about(0, 0)", "about(60, 1)", "shares(1, 0)",
            "shares(3, 0)",
            "ends(0)", "ends(60)", "compare(-1)", "forget()", "end(0)"}) {
            s.stays(zero, 0);
        }
        s.refuses("pins(0, 0, 0)", -2);
        s.refuses("pull(0, 0, 0)", -2);
        s.refuses("snap(0, 0)", -2);
        s.refuses("wed(0, 0)", -2);
        s.refuses("force(0)", -2);
        s.refuses("back(0)", -2);
        s.refuses("back(1)", -2);
        s.refuses("undo()", -3);
        s.refuses("generations(0, 1)", -3);
        s.refuses("row()", -6);
        s.refuses("law()", -6, "fault() 0");
        s.refuses("orders()", -6);
        new Scene().due("pass()", 1, "count(5)", 1, "undo()", 3, "image(0)", 0, "back(0)", 0, "force(-1)", -1, "status()", 0);
    }

    // ---- 2 to 8 ----

    private static void boxes() {
        says(2, "A BOX: its number. -1; -5.");
        Scene s = new Scene();
        for (String spring : new String[] {"-1", "21", "MIN", "MAX"}) {
            s.refuses("box(" + spring + ")", -1);
        }
        for (int i = 0; i < 6; i++) {
            s.due("box(" + 4 * i + ")", i, "status()", 0);
        }
        s.refuses("box(4)", -5);
        s.refuses("box(21)", -1);
        s.refuses("box(0)", -5);
        for (int i = 0; i < 6; i++) {
            s.due("of(" + i + ", 0)", 4 * i);
        }
        // Behind back() a number is given anew, to a box as it is at first.
        Scene anew = new Scene("image(0)", "box(9)", "pins(0, 0, 255)", "pins(0, 7, 1)", "suitor(0, 0)", "snap(1, 0)",
            "wed(0, 0)", "back(0)");
        anew.due("box(3)", 0, "of(0, 0)", 3, "of(0, 1)", 0, "of(0, 2)", 0, "of(0, 3)", -1, "of(0, 4)", 0, "of(0, 7)", 0,
            "of(0, 14)", 0);
    }

    private static void boxesTold() {
        says(3, "Of a BOX SPRING (what 0), NOTES (1), BROKEN TEETH as bits (2), the SUITOR it is wed to (3; NONE), LEFT (4), how long "
            + "it LASTS (5), what SPRING LOSES (6), PINS at BAR b (7 + b). NONE.");
        Scene s = Scene.ofAll();
        long[] want = {8, 5, 0, 1, 10, 10, 1, 4, 3, 9, 0, 0, 0, 0, 0};
        for (int what = 0; what < want.length; what++) {
            s.stays("of(0, " + what + ")", want[what]);
        }
        long[] other = {2, 3, 2, -1, 0, 3, 2, 6, 0, 0, 0, 0, 0, 0, 129};
        for (int what = 0; what < other.length; what++) {
            s.stays("of(1, " + what + ")", other[what]);
        }
        s.none("of(0, -1)", "of(0, 15)", "of(0, MIN)", "of(0, MAX)", "of(-1, 0)", "of(3, 0)", "of(3, 14)", "of(MIN, 0)",
            "of(MAX, 0)");
        // What a spring loses is as the law tells, though it has less.
        new Scene("box(0)", "law loses 9", "force(0)").due("of(0, 6)", 9, "pass()", 1, "of(0, 0)", 0);
    }

    private static void pinsPut() {
        says(4, "PINS of a BOX at a BAR, as bits: what there were. -1; -2.");
        Scene s = Scene.ofAll();
        for (String bar : new String[] {"-1", "8", "MIN", "MAX"}) {
            s.refuses("pins(0, " + bar + ", 0)", -1);
            s.refuses("pins(9, " + bar + ", 0)", -1);
        }
        for (String set : new String[] {"-1", "256", "MIN", "MAX"}) {
            s.refuses("pins(0, 0, " + set + ")", -1);
            s.refuses("pins(9, 0, " + set + ")", -1);
        }
        for (String box : new String[] {"-1", "3", "MIN", "MAX"}) {
            s.refuses("pins(" + box + ", 0, 0)", -2);
        }
        s.due("pins(2, 3, 0)", 255, "of(2, 10)", 0, "pins(2, 3, 255)", 0, "of(2, 10)", 255, "pins(2, 0, 1)", 0,
            "pins(2, 7, 128)", 0);
        s.due("of(2, 7)", 1, "of(2, 14)", 128, "of(2, 8)", 0, "of(2, 13)", 0, "of(1, 7)", 6, "of(0, 3)", 1, "pins(0, 0, 255)", 4);
    }

    private static void suitors() {
        says(5, "A SUITOR: the number. -1; -5.");
        Scene s = new Scene();
        for (String ear : new String[] {"-1", "8", "MIN", "MAX"}) {
            s.refuses("suitor(" + ear + ", 0)", -1);
        }
        for (String wants : new String[] {"-1", "61", "MIN", "MAX"}) {
            s.refuses("suitor(0, " + wants + ")", -1);
        }
        for (int i = 0; i < 6; i++) {
            s.due("suitor(" + i + ", " + 12 * i + ")", i, "status()", 0, "count(1)", i + 1);
        }
        s.refuses("suitor(0, 0)", -5);
        s.refuses("suitor(8, 0)", -1);
        s.refuses("suitor(0, 61)", -1);
        for (int i = 0; i < 6; i++) {
            s.due("at(" + i + ", 0)", i, "at(" + i + ", 1)", 12 * i);
        }
    }

    private static void suitorsTold() {
        says(6, "Of a SUITOR EAR (what 0), WANTS (1), the BOX he is wed to (2; NONE). NONE.");
        Scene s = Scene.ofAll();
        s.stays("at(1, 0)", 2);
        s.stays("at(1, 1)", 12);
        s.stays("at(1, 2)", 0);
        s.stays("at(2, 0)", 7);
        s.stays("at(2, 1)", 60);
        s.none("at(2, 2)", "at(1, 3)", "at(1, -1)", "at(1, MIN)", "at(1, MAX)", "at(3, 0)", "at(-1, 0)", "at(-1, 2)",
            "at(MIN, 0)", "at(MAX, 2)");
    }

    private static void asking() {
        says(7, "Of a BOX and a SUITOR ear (what 0), how he LIKES it (1), whether BARRED (2: 1, 0). NONE.");
        Scene s = Scene.ofAll();
        s.stays("asks(0, 1, 0)", 1);
        s.stays("asks(0, 1, 1)", 4);
        s.stays("asks(0, 1, 2)", 0);
        s.stays("asks(2, 0, 0)", 1);
        s.stays("asks(2, 0, 1)", 4);
        s.stays("asks(2, 0, 2)", 1);
        s.stays("asks(2, 2, 2)", 0);
        s.stays("asks(1, 2, 0)", 1);
        s.none("asks(0, 0, 3)", "asks(0, 0, -1)", "asks(0, 0, MIN)", "asks(0, 0, MAX)", "asks(3, 0, 0)", "asks(-1, 0, 0)",
            "asks(0, 3, 0)",
            "asks(0, -1, 0)", "asks(MAX, 0, 0)", "asks(0, MAX, 0)", "asks(MIN, MIN, MIN)", "asks(3, 0, 2)", "asks(0, 3, 2)",
                "asks(0, -1, 1)");
    }

    private static void terms() {
        says(8, "A TERM: what it was. -1.");
        Scene s = Scene.ofAll();
        for (String wrong : new String[] {"-1, 0", "3, 0", "MIN, 0", "MAX, 0", "0, -1", "0, 1000", "1, -1", "1, 11", "2, -1",
            "2, 10", "0, MAX", "2, MIN"}) {
            s.refuses("terms(" + wrong + ")", -1);
        }
        s.due("terms(0, 999)", 1, "terms(0, 0)", 999, "terms(0, 5)", 0, "terms(1, 0)", 2, "terms(1, 10)", 0, "terms(1, 5)", 10);
        s.due("terms(2, 9)", 0, "terms(2, 0)", 9, "terms(2, 3)", 0, "count(13)", 5, "count(14)", 5, "count(15)", 3);
    }

    // ---- 9 to 12 ----

    private static void feeding() {
        says(9, "Twenty bytes come behind the TAPE, four of each number, the highest first: how many it has. NONE, if there would be more "
            + "than 400.");
        Scene s = new Scene();
        for (int i = 1; i <= 20; i++) {
            s.due("feed(538976288, 538976288, 538976288, 538976288, 538976288)", 20 * i, "count(6)", 20 * i);
        }
        s.none("feed(0, 0, 0, 0, 0)", "feed(-1, -1, -1, -1, -1)");
        s.due("end(381)", 381);
        s.none("feed(0, 0, 0, 0, 0)");
        s.due("end(380)", 380, "feed(0, 0, 0, 0, 0)", 400, "status()", 0);
        // "lasts 10+2 if 3>2;  ", then the same again: the fault is at the end.
        Scene order = new Scene("box(1)");
        order.due("feed(1818325876, 1931489584, 724705385, 1713386302, 842735648)", 20, "end(17)", 17, "law()", 0,
            "force(0)", -1, "of(0, 5)", 12);
        order.due("feed(1818325876, 1931489584, 724705385, 1713386302, 842735648)", 20);
        order.due("feed(1818325876, 1931489584, 724705385, 1713386302, 842735648)", 40, "law()", -6, "fault()", 40);
        // Each byte of each number, with and without a sign; a byte behind the tape's end is none of it.
        Scene signs = new Scene("box(1)", "box(1)", "box(1)", "box(1)", "box(1)", "box(1)");
        // 0 1 255, 1 1 255, 2 255 4, 3 7 128, 0 0 7, 5 7 129, 255 0.
        signs.due("feed(130817, 33489663, 67307392, 1797, 125959936)", 20, "row()", 5, "rust()", 2, "of(0, 8)", 255,
            "of(1, 8)", 255);
        signs.due("of(3, 14)", 128, "of(0, 7)", 7, "of(5, 14)", 129, "of(2, 1)", 0, "of(4, 1)", 0);
        // 0 0 128, 5 7 254, and 0 0 0 till the end.
        signs.due("feed(32773, 134086656, 0, 0, 0)", 20, "end(6)", 6, "row()", 2, "of(0, 7)", 128, "of(5, 14)", 254);
        Scene behind = new Scene("box(1)", "tape bars;bars");
        behind.due("end(4)", 4, "feed(538976288, 538976288, 538976288, 538976288, 538976288)", 24, "law()", 0, "fault()", -1);
    }

    private static void endingTheTape() {
        says(10, "The TAPE has its first n bytes alone: n. NONE, if it has not so many, or n is below 0.");
        Scene s = new Scene();
        s.none("end(1)", "end(-1)", "end(MIN)", "end(MAX)");
        s.stays("end(0)", 0);
        s.does("tape bars;bars");
        s.none("end(10)", "end(-1)", "end(MIN)", "end(MAX)");
        s.stays("end(9)", 9);
        s.due("end(4)", 4, "count(6)", 4);
        s.none("end(5)", "end(9)");
        s.due("law()", 0, "fault()", -1, "end(0)", 0, "tape bars", 4, "end(0)", 0, "count(6)", 0, "law()", -6, "fault()", 0);
        Scene full = new Scene("tape " + "x".repeat(400));
        full.none("end(401)");
        full.stays("end(400)", 400);
        full.due("end(0)", 0);
        full.none("end(1)");
    }

    private static void rows() {
        says(11, "A ROW, the TAPE is empty then: how many BARS were told. -6 the TAPE is empty.");
        Scene s = new Scene("box(1)");
        s.refuses("row()", -6);
        s.due("row 0 0 1", 1, "count(6)", 0, "status()", 0);
        s.refuses("row()", -6);
        s.due("row 0 0 1 0 0 2 0 0 3", 3, "of(0, 7)", 3, "row 1 0 1", 0, "status()", 0, "count(6)", 0, "row 0", 0,
            "status()", 0, "count(6)", 0);
        StringBuilder most = new StringBuilder();
        for (int i = 0; i < 133; i++) {
            most.append("0 ").append(i % 8).append(" ").append(i).append(" ");
        }
        s.due("row " + most + "0", 133, "rust()", 1, "of(0, 7)", 128, "of(0, 11)", 132, "of(0, 14)", 127);
        s.does("end(0)");
        s.refuses("row()", -6);
    }

    private static void rust() {
        says(12, "How many times there was RUST in the latest row() that was not REFUSED (0 ahead of any).");
        Scene s = new Scene("box(1)");
        s.due("rust()", 0, "row()", -6, "rust()", 0, "row 9 9 9 9 9 9", 0);
        s.stays("rust()", 2);
        s.refuses("row()", -6);
        s.due("rust()", 2, "row 0 0 0 1", 1, "rust()", 1, "row 0 0 0", 1, "rust()", 0);
        StringBuilder most = new StringBuilder();
        for (int i = 0; i < 400; i++) {
            most.append("9 ");
        }
        s.due("row " + most, 0, "rust()", 134);
    }

    // ---- 13 to 17 ----

    private static void laws() {
        says(13, "The TAPE, which is empty then, becomes a LAW: its number. -5 (ahead of reading it; the TAPE is empty then, too); -6 "
            + "(blanks alone: FAULT at the end).");
        Scene s = Scene.ofAll();
        s.due("law()", 2, "count(6)", 0, "fault()", -1, "status()", 0, "stopped()", 1, "rust()", 1);
        s.refuses("law()", -6, "fault() 0");
        s.refuses("law  ", -6, "fault() 1");
        s.refuses("law         ", -6, "fault() 8");
        s.refuses("law " + " ".repeat(400), -6, "fault() 400");
        s.due("tape bars bars", 9, "law()", -6, "count(6)", 0, "fault()", 5, "count(4)", 3);
        s.due("law bars", 3, "law bars", 4, "law bars", 5, "count(4)", 6, "law bars bars", -5, "count(6)", 0, "fault()", -1,
            "count(4)", 6);
        s.refuses("law bars", -5);
        s.refuses("law()", -5);
        s.due("orders 5", -6, "fault()", 0, "tape bars bars", 9);
        s.refuses("law()", -5, "count(6) 0");
        // Laws that are full of parts, all six, and the boxes by each of them.
        Scene six = new Scene("box(9)", "box(1)");
        for (int law = 0; law < 6; law++) {
            six.due("law lasts " + "box+".repeat(48) + "1" + law + ";bars", law, "fault()", -1);
        }
        for (int law = 0; law < 6; law++) {
            six.due("compare(" + law + ")", 10 + law + Math.min(58 + law, 60));
        }
        // An image of fewer laws makes room.
        s.due("back(0)", 0, "count(4)", 2, "law lasts 21", 2, "force(2)", -1, "of(0, 5)", 21);
    }

    private static void orders() {
        says(14, "ORDERS, the TAPE is empty then: how many were run. -3 one can't be; -6 (as for law()).");
        Scene s = Scene.ofAll();
        s.refuses("orders()", -6, "count(6) 0", "fault() 0", "stopped() -1");
        s.refuses("orders    ", -6, "fault() 3");
        s.refuses("orders " + " ".repeat(400), -6, "fault() 400");
        s.due("tape pass;", 5, "orders()", -6, "count(6)", 0, "fault()", 5, "count(13)", 1);
        s.due("tape pass;pass", 9, "orders()", 2, "count(6)", 0, "count(13)", 3, "status()", 0, "fault()", -1);
        s.due("tape pass;wed 0 to 0", 15, "orders()", -3, "count(6)", 0, "count(13)", 3, "status()", -3);
        s.due("orders pass if 1=2", 0, "status()", 0, "orders pass times 20 if year<999", 20,
            "orders pass times 3;pass if 1=2;pass times 4", 7);
        // However many texts were read, the next one has all its parts and brackets.
        Scene many = new Scene();
        for (int i = 1; i <= 20; i++) {
            many.due("orders pass if " + "1+".repeat(48) + "1=[[[[[[[[49]]]]]]]]", 1, "count(13)", i, "fault()", -1);
            many.due("orders pass if (1=1 or 1", -6, "fault()", 17);
        }
        Scene none = new Scene();
        none.refuses("orders wed 0 to 0", -3, "stopped() 0");
        none.due("orders pass", 1);
    }

    private static void faults() {
        says(15, "FAULT of the latest law(), orders() that read a TEXT: its place; NONE without.");
        Scene s = new Scene("box(1)");
        s.due("fault()", -1, "law bars 5", -6);
        s.stays("fault()", 5);
        s.due("row 0 0 0", 1, "fault()", 5, "row()", -6, "fault()", 5, "orders pass", 1, "fault()", -1, "orders pass 5", -6,
            "fault()", 5);
        s.due("orders pass;wed 9 to 9", -3, "fault()", -1, "law", -6, "fault()", 0, "law bars", 0, "fault()", -1,
            "orders pass;", -6, "fault()", 5);
        for (int law = 1; law < 6; law++) {
            s.does("law bars");
        }
        s.due("fault()", -1, "orders pass   5", -6, "fault()", 7, "law bars", -5, "fault()", 7, "law nonsense", -5, "fault()", 7);
        s.due("image(0)", 0, "orders pass", 1, "back(0)", 0, "fault()", -1);
    }

    private static void stops() {
        says(16, "Which CLAUSE of the latest orders() could not be. NONE.");
        Scene s = new Scene("box(1)");
        s.due("stopped()", -1, "orders pass;pass", 2, "stopped()", -1, "orders snap 9 of 0", -3);
        s.stays("stopped()", 0);
        s.due("law bars", 0, "stopped()", 0, "law 5", -6, "stopped()", 0, "pull(0, 0, 0)", -3, "stopped()", 0);
        s.due("orders " + "pass;".repeat(11) + "snap 9 of 0", -3, "stopped()", 11, "orders pass", 1, "stopped()", -1);
        s.due("orders pass;pass if 1=2;snap 0 of 0 times 2;snap 9 of 9", -3, "stopped()", 2, "orders pass;;", -6,
            "stopped()", -1);
        s.due("orders snap 1/0 of 0", -3, "stopped()", 0, "orders()", -6, "stopped()", -1, "orders pass;snap 9 of 0", -3,
            "stopped()", 1);
        s.due("image(0)", 0, "orders pass", 1, "back(0)", 0, "stopped()", -1);
    }

    private static void forces() {
        says(17, "A LAW is in FORCE (NONE: none): which was. -2.");
        Scene s = new Scene("box(1)");
        for (String law : new String[] {"0", "5", "6", "-2", "MIN", "MAX"}) {
            s.refuses("force(" + law + ")", -2);
        }
        s.due("force(-1)", -1, "status()", 0, "count(8)", 6, "law lasts 10", 0);
        s.refuses("force(1)", -2);
        s.due("force(0)", -1, "count(12)", 0, "status()", 0, "force(0)", 0, "of(0, 5)", 10);
        s.refuses("force(1)", -2);
        s.refuses("force(-2)", -2);
        for (int law = 1; law < 6; law++) {
            s.does("law lasts 1" + law);
        }
        s.refuses("force(6)", -2);
        s.due("force(5)", 0, "of(0, 5)", 15, "force(-1)", 5, "count(12)", -1, "of(0, 5)", 1, "pass()", 1, "force(3)", -1,
            "count(5)", 1);
    }

    // ---- 18 to 22 ----

    private static void pulls() {
        says(18, "To PULL: NOTES then. -1; -2; -3.");
        Scene s = Scene.ofAll();
        for (String tooth : new String[] {"-1", "8", "MIN", "MAX"}) {
            s.refuses("pull(" + tooth + ", 0, 0)", -1);
            s.refuses("pull(" + tooth + ", 0, 9)", -1);
            s.refuses("pull(0, " + tooth + ", 0)", -1);
            s.refuses("pull(0, " + tooth + ", 9)", -1);
        }
        for (String box : new String[] {"-1", "3", "MIN", "MAX"}) {
            s.refuses("pull(0, 0, " + box + ")", -2);
        }
        s.refuses("pull(0, 0, 0)", -3);
        s.refuses("pull(0, 3, 0)", -3);
        s.due("pull(1, 0, 1)", 3, "pull(7, 7, 1)", 2, "pull(0, 7, 1)", 1, "pull(2, 0, 1)", 0, "count(5)", 8, "status()", 0);
        s.refuses("pull(2, 0, 1)", -3);
    }

    private static void snaps() {
        says(19, "To SNAP: NOTES then. -1; -2; -3.");
        Scene s = Scene.ofAll();
        for (String tooth : new String[] {"-1", "8", "MIN", "MAX"}) {
            s.refuses("snap(" + tooth + ", 0)", -1);
            s.refuses("snap(" + tooth + ", 9)", -1);
        }
        for (String box : new String[] {"-1", "3", "MIN", "MAX"}) {
            s.refuses("snap(0, " + box + ")", -2);
        }
        s.refuses("snap(1, 1)", -3);
        s.due("snap(0, 2)", 7, "snap(7, 2)", 6, "snap(0, 0)", 3, "snap(7, 0)", 3, "count(5)", 8, "status()", 0);
        s.refuses("snap(7, 0)", -3);
    }

    private static void weddings() {
        says(20, "To WED: LEFT. -2; -3.");
        Scene s = Scene.ofAll();
        for (String wrong : new String[] {"-1", "3", "MIN", "MAX"}) {
            s.refuses("wed(" + wrong + ", 0)", -2);
            s.refuses("wed(0, " + wrong + ")", -2);
            s.refuses("wed(" + wrong + ", " + wrong + ")", -2);
        }
        s.refuses("wed(0, 0)", -3);
        s.refuses("wed(1, 1)", -3);
        s.refuses("wed(2, 0)", -3);
        s.due("wed(2, 2)", 4, "at(2, 2)", 2, "of(2, 3)", 2, "count(2)", 2, "count(5)", 5, "status()", 0, "wed(1, 0)", 3,
            "count(2)", 3);
        s.refuses("wed(1, 0)", -3);
        Scene full = new Scene();
        for (int i = 0; i < 6; i++) {
            full.does("box(1)", "suitor(0, 0)");
        }
        for (int i = 0; i < 6; i++) {
            full.due("wed(" + i + ", " + (5 - i) + ")", 1, "count(2)", i + 1);
        }
        full.refuses("wed(5, 5)", -3);
        full.due("pass()", 1, "count(2)", 0, "undo()", 3, "count(2)", 6);
    }

    private static void years() {
        says(21, "A YEAR: its number. -3.");
        Scene s = Scene.ofAll();
        s.due("pass()", 2, "of(0, 0)", 7, "of(1, 0)", 0, "of(2, 0)", 0, "of(0, 4)", 9, "status()", 0, "count(5)", 5);
        s.due("terms(0, 998)", 2, "pass()", 999, "of(0, 0)", 6);
        s.refuses("pass()", -3);
        s.due("terms(0, 0)", 999, "pass()", 1);
        new Scene().due("pass()", 1, "pass()", 2, "count(13)", 2);
    }

    private static void undoing() {
        says(22, "The latest pull(), snap(), wed(), pass() (by ORDERS, too; 16 are kept) is undone: 0 .. 3. -3 there is none");
        Scene s = Scene.ofAll();
        s.due("count(5)", 4, "undo()", 3, "count(13)", 0, "of(0, 0)", 9, "of(1, 0)", 4, "of(0, 4)", 11, "count(5)", 3);
        s.due("undo()", 2, "of(0, 3)", -1, "of(0, 4)", 0, "undo()", 1, "of(1, 2)", 0, "undo()", 0, "of(0, 7)", 5,
            "count(5)", 0, "status()", 0);
        s.refuses("undo()", -3);
        s.due("force(-1)", 0, "orders pull 0 at 0 of 0;snap 0 of 0;wed 0 to 0;pass", 4, "count(5)", 4, "undo()", 3,
            "undo()", 2, "undo()", 1, "undo()", 0);
        s.refuses("undo()", -3);
        Scene full = new Scene();
        for (int i = 1; i <= 16; i++) {
            full.due("pass()", i, "count(5)", i);
        }
        Scene more = new Scene();
        for (int i = 1; i <= 17; i++) {
            more.does("pass()");
        }
        more.due("count(5)", 16);
        for (int i = 1; i <= 16; i++) {
            full.due("undo()", 3, "count(13)", 16 - i, "count(5)", 16 - i);
            more.due("undo()", 3, "count(13)", 17 - i, "count(5)", 16 - i);
        }
        full.refuses("undo()", -3);
        more.refuses("undo()", -3);
        // By orders the seventeenth from the end is lost as well; undone ones make room.
        Scene orders = new Scene("box(1)", "pins(0, 0, 255)", "pull(0, 0, 0)", "orders pass times 15");
        orders.due("count(5)", 16, "orders pass", 1, "count(5)", 16, "undo()", 3, "count(5)", 15, "snap(7, 0)", 6, "undo()", 1);
        for (int i = 0; i < 15; i++) {
            orders.due("undo()", 3);
        }
        orders.refuses("undo()", -3);
        orders.due("of(0, 7)", 254, "count(13)", 0);
        // What is refused is no deed, and an undone one can't be undone.
        Scene refused = new Scene("box(1)", "snap(0, 0)", "snap(0, 0)", "snap(8, 0)", "orders pass;snap 0 of 0", "undo()");
        refused.due("of(0, 2)", 0, "count(5)", 0);
        refused.refuses("undo()", -3);
    }

    private static void whatCantBeUndone() {
        says(22, "(nothing that was ahead of a box(), pins(), suitor(), terms(), row() that was not REFUSED can be undone)");
        for (String call : new String[] {"box(1)", "pins(0, 0, 4)", "suitor(0, 0)", "terms(0, 1)", "terms(1, 2)",
            "terms(2, 0)", "row 0 0 4", "row 9"}) {
            Scene s = Scene.ofAll();
            s.does("end(0)", call);
            s.due("status()", 0, "count(5)", 0);
            s.refuses("undo()", -3);
            s.due("snap(6, 0)", 5, "count(5)", 1, "undo()", 1);
            s.refuses("undo()", -3);
        }
        for (String call : new String[] {"box(21)", "pins(0, 0, 256)", "pins(3, 0, 0)", "suitor(8, 0)", "terms(0, 1000)",
            "hear(0, 0, 0)", "forget()",
            "force(1)", "image(1)", "generations(1, 1)", "law bars", "orders pass if 1=2", "feed(0, 0, 0, 0, 0)", "end(1)"}) {
            Scene s = Scene.ofAll();
            s.does(call);
            s.due("count(5)", 4, "undo()", 3, "undo()", 2, "undo()", 1, "undo()", 0);
        }
        Scene row = Scene.ofAll();
        row.does("end(0)");
        row.refuses("row()", -6);
        row.due("count(5)", 4, "undo()", 3);
        Scene full = new Scene("box(1)", "box(1)", "box(1)", "box(1)", "box(1)", "box(1)", "pass()");
        full.refuses("box(1)", -5);
        full.due("count(5)", 1, "undo()", 3);
    }

    // ---- 23 to 28 ----

    private static void hearing() {
        says(23, "HEARD: how often there was. -1; -5.");
        Scene s = Scene.ofAll();
        for (String wrong : new String[] {"-1", "8", "MIN", "MAX"}) {
            s.refuses("hear(" + wrong + ", 0, 0)", -1);
            s.refuses("hear(0, " + wrong + ", 0)", -1);
        }
        for (String wrong : new String[] {"-1", "2", "MIN", "MAX"}) {
            s.refuses("hear(0, 0, " + wrong + ")", -1);
        }
        s.due("hear(7, 7, 0)", 2, "hear(7, 7, 0)", 3, "hear(0, 0, 0)", 4, "hear(0, 7, 0)", 5, "hear(7, 0, 1)", 6,
            "hear(0, 2, 1)", 7);
        s.due("hear(0, 2, 1)", 8, "count(3)", 8, "status()", 0);
        s.refuses("hear(0, 0, 0)", -5);
        s.refuses("hear(0, 0, 2)", -1);
        s.refuses("hear(8, 0, 0)", -1);
    }

    private static void forgetting() {
        says(24, "HEARD is nothing then: how often there was.");
        Scene s = Scene.ofAll();
        s.due("which()", 3, "forget()", 1, "count(3)", 0, "which()", 7, "count(5)", 4);
        s.stays("forget()", 0);
        for (int i = 1; i <= 8; i++) {
            s.due("hear(0, 0, 0)", i);
        }
        s.due("forget()", 8, "forget()", 0, "hear(0, 0, 0)", 1);
    }

    private static void whichBox() {
        says(25, "WHICH BOX, as bits.");
        new Scene().stays("which()", 0);
        Scene s = Scene.ofAll();
        s.stays("which()", 3);
        s.due("hear(0, 2, 0)", 2);
        s.stays("which()", 0);
        Scene six = new Scene("box(1)", "box(1)", "box(1)", "box(1)", "box(1)", "box(1)", "pins(5, 7, 128)", "pins(0, 0, 1)");
        six.due("which()", 63, "hear(7, 7, 1)", 1, "which()", 32, "forget()", 1, "hear(0, 0, 1)", 1, "which()", 1,
            "hear(7, 7, 0)", 2, "which()", 1);
    }

    private static void listening() {
        says(26, "To LISTEN for: ten times the BAR and the TOOTH (what 0), how many are left at most (1). NONE (no BOX).");
        Scene s = new Scene();
        s.none("listen(0)", "listen(1)");
        s.due("box(1)", 0);
        s.stays("listen(0)", 0);
        s.stays("listen(1)", 1);
        s.none("listen(2)", "listen(-1)", "listen(MIN)", "listen(MAX)");
        s.due("box(1)", 1, "pins(0, 7, 128)", 0);
        s.stays("listen(0)", 77);
        s.stays("listen(1)", 1);
        s.does("hear(7, 7, 1)", "hear(7, 7, 0)");
        s.none("listen(0)", "listen(1)");
    }

    private static void steady() {
        says(27, "STEADY: the SUITOR of a BOX (NONE: none; it is wed). NONE.");
        Scene s = Scene.ofAll();
        // Box 1 lasts 3, box 2 lasts 4; suitor 0 wants 5 and is barred from box 2, suitor 2 wants 60.
        s.stays("steady(1)", 0);
        s.stays("steady(2)", 2);
        s.none("steady(0)", "steady(3)", "steady(-1)", "steady(MIN)", "steady(MAX)");
        new Scene("box(1)").none("steady(0)");
        Scene wed = new Scene("box(1)", "box(1)", "suitor(0, 0)", "wed(0, 0)");
        wed.none("steady(0)", "steady(1)");
        wed.due("undo()", 2, "steady(0)", 0);
        wed.none("steady(1)");
    }

    private static void about() {
        says(28, "ABOUT by d 0 .. 60: how many (what 0), the differences (1), the SUITOR of BOX b (2 + b; 100: none; NONE: it is wed). NONE.");
        Scene s = Scene.ofAll();
        // As in steady: box 1 with suitor 0 differs by 2, box 1 with suitor 2 by 57, box 2 with suitor 2 by 56.
        s.stays("about(1, 0)", 0);
        s.stays("about(2, 0)", 1);
        s.stays("about(2, 1)", 2);
        s.stays("about(2, 3)", 0);
        s.stays("about(2, 4)", 100);
        s.stays("about(55, 0)", 1);
        s.stays("about(56, 0)", 2);
        s.stays("about(60, 0)", 2);
        s.stays("about(60, 1)", 58);
        s.stays("about(60, 3)", 0);
        s.stays("about(60, 4)", 2);
        s.none("about(60, 2)", "about(60, 5)", "about(60, -1)", "about(60, MIN)", "about(60, MAX)", "about(-1, 0)",
            "about(61, 0)", "about(MIN, 0)",
            "about(MAX, 0)", "about(61, 3)", "about(-1, 4)");
        Scene none = new Scene("box(0)");
        none.stays("about(0, 0)", 0);
        none.stays("about(0, 1)", 0);
        none.stays("about(0, 2)", 100);
        none.due("suitor(0, 0)", 0, "about(0, 0)", 1, "about(0, 1)", 0, "about(0, 2)", 0);
        Scene full = new Scene("box(0)", "box(0)", "box(0)", "box(0)", "box(0)", "box(0)");
        full.stays("about(0, 7)", 100);
        full.none("about(0, 8)");
    }

    // ---- 29 to 37 ----

    private static void keeping() {
        says(29, "KEPT by a RULE: how many PINS (bar NONE), the set at a BAR. NONE.");
        Scene s = Scene.ofAll();
        s.stays("keep(2, 8, -1)", 0);
        s.stays("keep(2, 8, 3)", 255);
        s.stays("keep(2, 7, -1)", 2);
        s.stays("keep(2, 7, 2)", 1);
        s.stays("keep(2, 7, 4)", 1);
        s.stays("keep(2, 0, -1)", 56);
        s.stays("keep(2, 0, 0)", 255);
        s.stays("keep(2, 0, 7)", 255);
        s.none("keep(2, 0, -2)", "keep(2, 0, 8)", "keep(2, 0, MIN)", "keep(2, 0, MAX)", "keep(2, -1, -1)", "keep(2, 9, -1)",
            "keep(2, MIN, 0)",
            "keep(2, MAX, 0)", "keep(3, 0, -1)", "keep(-1, 0, -1)", "keep(MIN, 0, 0)", "keep(MAX, 0, 0)");
    }

    private static void clashes() {
        says(30, "CLASHES of two BOXES at a TURN. NONE (one alone, too).");
        Scene s = Scene.ofAll();
        // Box 0 has notes 2 | 0, 1 | 0, 3 at bars 0, 1, 2; box 2 has all eight at bar 3.
        s.stays("clash(0, 2, 3)", 2);
        s.stays("clash(0, 2, 2)", 3);
        s.stays("clash(0, 2, 1)", 3);
        s.stays("clash(0, 2, 0)", 0);
        s.stays("clash(0, 2, 7)", 0);
        s.stays("clash(2, 0, 7)", 3);
        s.none("clash(0, 0, 0)", "clash(2, 2, 0)", "clash(0, 2, -1)", "clash(0, 2, 8)", "clash(0, 2, MIN)", "clash(0, 2, MAX)",
            "clash(0, 3, 0)",
            "clash(3, 0, 0)", "clash(0, -1, 0)", "clash(-1, 0, 0)", "clash(MAX, 0, 0)", "clash(0, MIN, 0)", "clash(3, 3, 0)",
                "clash(-1, -1, 0)");
    }

    private static void bestTurns() {
        says(31, "BEST: the TURN (what 0), how many CLASHES (1). NONE.");
        Scene s = Scene.ofAll();
        s.stays("best(0, 2, 0)", 0);
        s.stays("best(0, 2, 1)", 0);
        s.does("pins(2, 0, 255)", "pins(2, 1, 255)", "pins(2, 2, 255)");
        // By turn 4 the bars 4, 5, 6 of box 2 are empty.
        s.stays("best(0, 2, 0)", 4);
        s.stays("best(0, 2, 1)", 0);
        s.stays("best(2, 0, 0)", 3);
        s.none("best(0, 2, 2)", "best(0, 2, -1)", "best(0, 2, MIN)", "best(0, 2, MAX)", "best(0, 0, 0)", "best(0, 0, 1)",
            "best(0, 3, 0)",
            "best(3, 0, 0)", "best(-1, 0, 0)", "best(0, -1, 1)", "best(MAX, MIN, 0)");
    }

    private static void filing() {
        says(32, "FILED at a TURN: how many (what 0), TEETH of the one (1), of the other one (2), as bits. NONE.");
        Scene s = Scene.ofAll();
        s.stays("filed(0, 2, 0, 0)", 0);
        s.stays("filed(0, 2, 0, 1)", 0);
        s.stays("filed(0, 2, 0, 2)", 0);
        s.stays("filed(0, 2, 3, 0)", 1);
        s.stays("filed(0, 2, 3, 1)", 4);
        s.stays("filed(0, 2, 3, 2)", 0);
        s.stays("filed(2, 0, 5, 0)", 1);
        s.stays("filed(2, 0, 5, 1)", 0);
        s.stays("filed(2, 0, 5, 2)", 4);
        s.none("filed(0, 2, 0, 3)", "filed(0, 2, 0, -1)", "filed(0, 2, 0, MIN)", "filed(0, 2, 0, MAX)", "filed(0, 2, 8, 0)",
            "filed(0, 2, -1, 0)",
            "filed(0, 2, MIN, 0)", "filed(0, 2, MAX, 0)", "filed(0, 0, 0, 0)", "filed(0, 3, 0, 0)", "filed(3, 0, 0, 0)",
                "filed(-1, 0, 0, 0)",
            "filed(0, -1, 0, 0)", "filed(MAX, MAX, 0, 0)");
    }

    private static void shares() {
        says(33, "SHARES of k sisters 1 .. 3: the least (what 0), whose BOX b is (1 + b). NONE.");
        Scene s = Scene.ofAll();
        // The boxes last 10, 3, 4.
        s.stays("shares(1, 0)", 17);
        s.stays("shares(1, 3)", 0);
        s.stays("shares(2, 0)", 7);
        s.stays("shares(2, 1)", 0);
        s.stays("shares(2, 2)", 1);
        s.stays("shares(2, 3)", 1);
        s.stays("shares(3, 0)", 3);
        s.stays("shares(3, 1)", 0);
        s.stays("shares(3, 2)", 1);
        s.stays("shares(3, 3)", 2);
        s.none("shares(0, 0)", "shares(4, 0)", "shares(-1, 0)", "shares(MIN, 0)", "shares(MAX, 0)", "shares(1, -1)",
            "shares(1, 4)", "shares(3, 4)",
            "shares(1, MIN)", "shares(1, MAX)", "shares(0, 1)", "shares(4, 1)");
    }

    private static void again() {
        says(34, "AGAIN: how many twos of BARS (i NONE), the i-th as ten times the one and the other. NONE.");
        Scene s = Scene.ofAll();
        // Box 0 has five bars without a note, box 2 seven.
        s.stays("again(0, -1)", 10);
        s.stays("again(0, 0)", 34);
        s.stays("again(0, 9)", 67);
        s.stays("again(2, -1)", 21);
        s.stays("again(2, 0)", 1);
        s.stays("again(2, 20)", 67);
        s.none("again(0, 10)", "again(2, 21)", "again(0, -2)", "again(0, MIN)", "again(0, MAX)", "again(3, -1)",
            "again(-1, -1)", "again(MIN, 0)", "again(MAX, 0)");
    }

    private static void ends() {
        says(35, "ENDS n YEARS 0 .. 60 on: BOXES that are wed yet, as bits. NONE.");
        Scene s = Scene.ofAll();
        s.stays("ends(0)", 1);
        s.stays("ends(9)", 1);
        s.stays("ends(10)", 0);
        s.stays("ends(60)", 0);
        s.none("ends(-1)", "ends(61)", "ends(MIN)", "ends(MAX)");
        s.due("wed(2, 2)", 4, "ends(3)", 5, "ends(4)", 1, "terms(0, 999)", 1, "ends(9)", 1);
    }

    private static void stands() {
        says(36, "SPRING STANDS n YEARS 0 .. 60. NONE.");
        Scene s = Scene.ofAll();
        s.stays("stands(1, 0)", 1000000000000L);
        s.stays("stands(1, 2)", 960000000000L);
        s.stays("stands(2, 0)", 0);
        s.stays("stands(2, 60)", 0);
        s.none("stands(1, -1)", "stands(1, 61)", "stands(1, MIN)", "stands(1, MAX)", "stands(3, 0)", "stands(-1, 0)",
            "stands(MIN, 0)", "stands(MAX, 60)");
        s.due("terms(1, 10)", 2, "stands(1, 1)", 1000000000000L, "stands(1, 2)", 0, "stands(1, 60)", 0, "terms(1, 0)", 10,
            "stands(1, 60)", 1000000000000L);
    }

    private static void compare() {
        says(37, "COMPARED. NONE (no such LAW).");
        Scene s = Scene.ofAll();
        s.stays("compare(-1)", 13);
        s.stays("compare(0)", 17);
        s.stays("compare(1)", 21);
        s.none("compare(2)", "compare(-2)", "compare(6)", "compare(MIN)", "compare(MAX)");
        s.does("law bars", "law bars", "law bars", "law lasts 60");
        s.stays("compare(5)", 180);
        s.none("compare(6)");
    }

    // ---- 38 to 43 ----

    private static void generations() {
        says(38, "GENERATIONS, kept as the latest: how many couples came to be wed no more. -1; -3 there are no BOXES.");
        Scene none = new Scene();
        none.refuses("generations(0, 1)", -3);
        none.refuses("generations(1000000, 60)", -3);
        none.refuses("generations(1000001, 1)", -1);
        none.refuses("generations(0, 0)", -1);
        none.due("suitor(0, 0)", 0, "generations(0, 1)", -3, "box(1)", 0, "generations(0, 1)", 0,
            "generations(1000000, 60)", 0, "status()", 0);
        Scene s = Scene.ofAll();
        for (String wrong : new String[] {"-1, 1", "1000001, 1", "MIN, 1", "MAX, 1", "0, 0", "0, 61", "0, -1", "0, MIN",
            "0, MAX"}) {
            s.refuses("generations(" + wrong + ")", -1);
        }
        s.due("wed(2, 2)", 4, "generations(0, 3)", 0, "drawn(0, 2)", 7, "drawn(2, 2)", 1, "generations(0, 4)", 1,
            "drawn(2, 2)", 0);
        s.due("generations(0, 9)", 1, "drawn(0, 2)", 1, "generations(0, 10)", 2, "drawn(0, 2)", 0, "count(2)", 2, "count(5)", 5);
    }

    private static void drawn() {
        says(39, "Behind the latest GENERATIONS NOTES (what 0), SPRING (1), LEFT (2) of a BOX. NONE.");
        Scene s = new Scene("box(9)", "pins(0, 0, 255)", "suitor(0, 0)", "wed(0, 0)");
        s.none("drawn(0, 0)", "drawn(0, 1)", "drawn(0, 2)");
        // Seed 0 draws box 0, bar 1, tooth 1, then 1: a tooth is snapped.
        s.does("generations(0, 1)");
        s.stays("drawn(0, 0)", 7);
        s.stays("drawn(0, 1)", 9);
        s.stays("drawn(0, 2)", 10);
        s.none("drawn(0, 3)", "drawn(0, -1)", "drawn(0, MIN)", "drawn(0, MAX)", "drawn(1, 0)", "drawn(-1, 0)", "drawn(MIN, 0)",
            "drawn(MAX, 0)");
        s.does("box(1)", "pins(0, 0, 0)");
        s.none("drawn(1, 0)");
        s.due("drawn(0, 0)", 7, "generations(0, 0)", -1, "drawn(0, 0)", 7, "generations(2, 1)", 0, "drawn(1, 1)", 0,
            "drawn(0, 0)", 0);
    }

    private static void image() {
        says(40, "IMAGE k is kept: 0; -1.");
        Scene s = Scene.ofAll();
        for (String k : new String[] {"-1", "2", "MIN", "MAX"}) {
            s.refuses("image(" + k + ")", -1);
        }
        s.due("image(1)", 0, "status()", 0, "count(5)", 4, "count(6)", 9, "box(5)", 3, "image(0)", 0, "back(1)", 0,
            "count(0)", 3, "back(0)", 0);
        s.due("count(0)", 4, "count(2)", 1, "of(0, 4)", 10);
        new Scene().due("image(0)", 0, "image(1)", 0, "box(1)", 0, "back(0)", 0, "count(0)", 0, "box(1)", 0, "back(1)", 0,
            "count(0)", 0);
    }

    private static void back() {
        says(41, "BACK to IMAGE k: 0. -1; -2 it was not kept.");
        Scene s = Scene.ofAll();
        for (String k : new String[] {"-1", "2", "MIN", "MAX"}) {
            s.refuses("back(" + k + ")", -1);
        }
        s.refuses("back(1)", -2);
        s.due("back(0)", 0, "status()", 0, "count(5)", 0, "count(12)", -1, "count(13)", 0);
        s.refuses("back(1)", -2);
        s.due("back(0)", 0, "image(1)", 0, "back(1)", 0, "status()", 0);
        Scene other = new Scene("image(1)");
        other.refuses("back(0)", -2);
        other.due("back(1)", 0);
    }

    private static void counts() {
        says(42, "0 BOXES, 1 SUITORS, 2 couples, 3 HEARD, 4 LAWS, 5 how many can be undone, 6 bytes of the TAPE, 7 .. 11 how many calls "
            + "were REFUSED by -1, -2, -3, -5, -6 (IMAGES do not keep that), 12 the LAW in FORCE, 13 .. 15 TERMS 0 .. 2. NONE for others.");
        Scene s = Scene.ofAll();
        int[] want = {3, 3, 1, 1, 2, 4, 9, 1, 0, 1, 0, 1, 0, 1, 2, 0};
        for (int what = 0; what < want.length; what++) {
            s.stays("count(" + what + ")", want[what]);
        }
        s.none("count(-1)", "count(16)", "count(MIN)", "count(MAX)");
        s.does("box(3)", "box(3)", "box(3)", "box(3)", "back(1)", "back(0)");
        s.due("count(7)", 1, "count(8)", 1, "count(9)", 1, "count(10)", 1, "count(11)", 1, "count(0)", 3);
        // Questions, feed(), end() and forget() can't be REFUSED, whatever they answer.
        s.none("of(9, 9)", "end(500)", "compare(9)", "listen(9)", "drawn(9, 9)", "about(99, 0)");
        s.due("count(7)", 1, "count(8)", 1, "count(9)", 1, "count(10)", 1, "count(11)", 1);
    }

    private static void status() {
        says(43, "What the latest call of box, pins, suitor, terms, row, law, orders, force, pull, snap, wed, pass, undo, hear, generations, "
            + "image, back was REFUSED by; 0 if it was not, or ahead of any.");
        new Scene().due("status()", 0);
        String[] fine = {"box(1)", "pins(0, 0, 1)", "suitor(0, 0)", "terms(0, 5)", "row 0 0 1", "law bars", "orders pass",
            "force(-1)",
            "pull(2, 0, 0)", "snap(0, 0)", "wed(2, 2)", "pass()", "undo()", "hear(0, 0, 0)", "generations(1, 1)", "image(1)",
                "back(0)"};
        String[] wrong = {"box(21)", "pins(9, 0, 1)", "suitor(8, 0)", "terms(0, -5)", "row()", "law", "orders wed 9 to 9",
            "force(9)",
            "pull(0, 0, 0)", "snap(1, 1)", "wed(9, 9)", "pass()", "undo()", "hear(9, 0, 0)", "generations(1, 0)", "image(9)",
                "back(1)"};
        int[] why = {-1, -2, -1, -1, -6, -6, -3, -2, -3, -3, -2, -3, -3, -1, -1, -1, -2};
        for (int i = 0; i < fine.length; i++) {
            Scene granted = Scene.ofAll();
            granted.does("box(21)");
            granted.due("status()", -1);
            granted.does(fine[i]);
            granted.stays("status()", 0);
            Scene refused = Scene.ofAll();
            refused.does("image(0)", "end(0)");
            if (wrong[i].equals("pass()")) {
                refused.does("terms(0, 999)");
            } else if (wrong[i].equals("undo()")) {
                refused.does("undo()", "undo()", "undo()", "undo()");
            }
            refused.due("status()", 0, wrong[i], why[i]);
            refused.stays("status()", why[i]);
        }
        for (String question : new String[] {"of(0, 0)", "at(0, 0)", "asks(0, 0, 0)", "feed(0, 0, 0, 0, 0)", "end(3)",
            "rust()", "fault()", "stopped()",
            "forget()", "which()", "listen(0)", "steady(0)", "about(0, 0)", "keep(0, 0, 0)", "clash(0, 1, 0)", "best(0, 1, 0)",
                "filed(0, 1, 0, 0)",
            "shares(1, 0)", "again(0, 0)", "ends(0)", "stands(0, 0)", "compare(0)", "drawn(0, 0)", "count(0)"}) {
            Scene s = Scene.ofAll();
            s.does("back(1)", question);
            s.due("status()", -2, "count(8)", 1);
        }
    }
}
