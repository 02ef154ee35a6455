import java.nio.charset.StandardCharsets;

/** For each promise 1 to 43 of the document, answers that were worked out by hand. */
public final class PromisesTest {
    private static int wrong = 0;
    private static int promise = 0;

    private static void due(String call, long got, long want) {
        if (got != want) {
            wrong++;
            System.out.println("promise " + promise + ": " + call + " answered " + got + ", due is " + want);
        }
    }

    private static void bytes(DowryBoxes x, byte... bytes) {
        int ahead = x.count(6);
        int fed = (bytes.length + 19) / 20 * 20;
        byte[] padded = java.util.Arrays.copyOf(bytes, fed);
        for (int i = 0; i < fed; i += 20) {
            int[] n = new int[5];
            for (int j = 0; j < 20; j++) {
                n[j / 4] = n[j / 4] << 8 | padded[i + j] & 255;
            }
            x.feed(n[0], n[1], n[2], n[3], n[4]);
        }
        x.end(ahead + bytes.length);
    }

    private static int law(DowryBoxes x, String text) {
        bytes(x, text.getBytes(StandardCharsets.ISO_8859_1));
        return x.law();
    }

    private static int orders(DowryBoxes x, String text) {
        bytes(x, text.getBytes(StandardCharsets.ISO_8859_1));
        return x.orders();
    }

    private static void lawFault(String text, int place) {
        DowryBoxes x = new DowryBoxes();
        due("law \"" + text + "\"", law(x, text), place == -1 ? 0 : -6);
        due("fault of law \"" + text + "\"", x.fault(), place);
    }

    private static void ordersFault(String text, int place) {
        DowryBoxes x = new DowryBoxes();
        due("orders \"" + text + "\" at a FAULT", orders(x, text) == -6 ? 1 : 0, place == -1 ? 0 : 1);
        due("fault of orders \"" + text + "\"", x.fault(), place);
    }

    /** What a law's "lasts" tells of box 0 (spring 7, 5 notes, tooth 7 broken, year 3, mood 4). */
    private static int lasts(String law) {
        DowryBoxes x = new DowryBoxes();
        x.box(7);
        x.pins(0, 0, 31 + 128);
        x.snap(7, 0);
        x.terms(0, 3);
        x.terms(2, 4);
        due("law \"" + law + "\"", law(x, law), 0);
        x.force(0);
        return x.of(0, 5);
    }

    private static String times(String what, int n) {
        return what.repeat(n);
    }

    public static void main(String[] args) {
        newObject();
        boxes();
        suitors();
        termsAndTape();
        rows();
        laws();
        lawWords();
        ordersRun();
        faults();
        deeds();
        undoing();
        hearing();
        matching();
        tunes();
        sharing();
        paperYears();
        images();
        counts();
        if (wrong != 0) {
            System.out.println(wrong + " answers are not as due");
            System.exit(1);
        }
        System.out.println("all promises are as due");
    }

    private static void newObject() {
        promise = 1;
        DowryBoxes x = new DowryBoxes();
        long[] want = {0, 0, 0, 0, 0, 0, 0, 0, 0, 0, 0, 0, -1, 0, 2, 0};
        for (int what = 0; what < want.length; what++) {
            due("count(" + what + ")", x.count(what), want[what]);
        }
        due("status()", x.status(), 0);
        due("fault()", x.fault(), -1);
        due("stopped()", x.stopped(), -1);
        due("rust()", x.rust(), 0);
        due("which()", x.which(), 0);
        due("NONE", DowryBoxes.NONE, -1);
    }

    private static void boxes() {
        promise = 2;
        DowryBoxes x = new DowryBoxes();
        due("box(-1)", x.box(-1), -1);
        due("box(21)", x.box(21), -1);
        for (int i = 0; i < 6; i++) {
            due("box(" + i * 4 + ")", x.box(i * 4), i);
        }
        due("box(0), a seventh", x.box(0), -5);
        due("box(21), a seventh", x.box(21), -1);
        due("count(0)", x.count(0), 6);

        promise = 3;
        due("of(5, 0)", x.of(5, 0), 20);
        due("of(0, 0)", x.of(0, 0), 0);
        x.pins(1, 2, 0b10110);
        x.pins(1, 7, 0b1);
        x.snap(1, 1);
        due("of(1, 1)", x.of(1, 1), 3);
        due("of(1, 2)", x.of(1, 2), 2);
        due("of(1, 3)", x.of(1, 3), -1);
        due("of(1, 4)", x.of(1, 4), 0);
        due("of(1, 5)", x.of(1, 5), 4);
        due("of(1, 6)", x.of(1, 6), 0);
        due("of(1, 9)", x.of(1, 9), 0b10110);
        due("of(1, 14)", x.of(1, 14), 1);
        due("of(1, 15)", x.of(1, 15), -1);
        due("of(1, -1)", x.of(1, -1), -1);
        due("of(1, MIN)", x.of(1, Integer.MIN_VALUE), -1);
        due("of(6, 0)", x.of(6, 0), -1);
        due("of(-1, 0)", x.of(-1, 0), -1);
        x.pins(5, 0, 255);
        due("of(5, 5), 20 and 8 by 4", x.of(5, 5), 22);
        due("status() is not of()'s", x.status(), 0);

        promise = 4;
        due("pins(0, 0, 255)", x.pins(0, 0, 255), 0);
        due("pins(0, 0, 1)", x.pins(0, 0, 1), 255);
        due("pins(0, -1, 0)", x.pins(0, -1, 0), -1);
        due("pins(0, 8, 0)", x.pins(0, 8, 0), -1);
        due("pins(0, 0, -1)", x.pins(0, 0, -1), -1);
        due("pins(9, 0, 256)", x.pins(9, 0, 256), -1);
        due("pins(6, 0, 0)", x.pins(6, 0, 0), -2);
        due("pins(-1, 0, 0)", x.pins(-1, 0, 0), -2);
        due("of(0, 7)", x.of(0, 7), 1);
    }

    private static void suitors() {
        promise = 5;
        DowryBoxes x = new DowryBoxes();
        due("suitor(-1, 0)", x.suitor(-1, 0), -1);
        due("suitor(8, 0)", x.suitor(8, 0), -1);
        due("suitor(0, -1)", x.suitor(0, -1), -1);
        due("suitor(0, 61)", x.suitor(0, 61), -1);
        for (int i = 0; i < 6; i++) {
            due("suitor", x.suitor(i + 2, 10 * i + 10), i);
        }
        due("suitor, a seventh", x.suitor(0, 0), -5);
        due("suitor, a seventh with wrong numbers", x.suitor(0, 61), -1);

        promise = 6;
        due("at(5, 0)", x.at(5, 0), 7);
        due("at(5, 1)", x.at(5, 1), 60);
        due("at(5, 2)", x.at(5, 2), -1);
        due("at(5, 3)", x.at(5, 3), -1);
        due("at(6, 0)", x.at(6, 0), -1);
        due("at(-1, 0)", x.at(-1, 0), -1);
        x.box(3);
        x.box(4);
        due("wed(1, 5)", x.wed(1, 5), 4);
        due("at(5, 2)", x.at(5, 2), 1);
        due("of(1, 3)", x.of(1, 3), 5);

        promise = 7;
        x.pins(0, 0, 0b1100);
        x.pins(0, 3, 0b0100);
        x.pins(0, 7, 0b0110);
        due("asks(0, 0, 0)", x.asks(0, 0, 0), 3);
        due("asks(0, 1, 0)", x.asks(0, 1, 0), 1);
        due("asks(0, 0, 1)", x.asks(0, 0, 1), 3);
        due("asks(0, 0, 2)", x.asks(0, 0, 2), 0);
        due("asks(0, 0, 3)", x.asks(0, 0, 3), -1);
        due("asks(2, 0, 0)", x.asks(2, 0, 0), -1);
        due("asks(0, 6, 0)", x.asks(0, 6, 0), -1);
        x.snap(2, 0);
        due("asks(0, 0, 0), its tooth broken", x.asks(0, 0, 0), 0);
        law(x, "likes 98 + ear;likes 5 / ear if suitor = 1;bars if suitor = 2;bars if wants = 40 and box = 1");
        x.force(0);
        due("asks(0, 0, 1)", x.asks(0, 0, 1), 98);
        due("asks(0, 1, 1)", x.asks(0, 1, 1), 5);
        due("asks(1, 1, 1): broken, the one ahead", x.asks(1, 1, 1), 98);
        due("asks(0, 2, 2)", x.asks(0, 2, 2), 1);
        due("asks(0, 3, 2)", x.asks(0, 3, 2), 0);
        due("asks(1, 3, 2)", x.asks(1, 3, 2), 1);
    }

    private static void termsAndTape() {
        promise = 8;
        DowryBoxes x = new DowryBoxes();
        due("terms(0, 999)", x.terms(0, 999), 0);
        due("terms(0, 1000)", x.terms(0, 1000), -1);
        due("terms(0, 5)", x.terms(0, 5), 999);
        due("terms(1, 10)", x.terms(1, 10), 2);
        due("terms(1, 11)", x.terms(1, 11), -1);
        due("terms(2, 9)", x.terms(2, 9), 0);
        due("terms(2, 10)", x.terms(2, 10), -1);
        due("terms(2, -1)", x.terms(2, -1), -1);
        due("terms(-1, 0)", x.terms(-1, 0), -1);
        due("terms(3, 0)", x.terms(3, 0), -1);
        due("count(13)", x.count(13), 5);
        due("count(14)", x.count(14), 10);
        due("count(15)", x.count(15), 9);

        promise = 9;
        for (int i = 1; i <= 20; i++) {
            due("feed", x.feed(-1, i, i, i, i), 20 * i);
        }
        due("feed beyond 400", x.feed(0, 0, 0, 0, 0), -1);
        due("count(6)", x.count(6), 400);

        promise = 10;
        due("end(401)", x.end(401), -1);
        due("end(-1)", x.end(-1), -1);
        due("end(381)", x.end(381), 381);
        due("feed beyond 400", x.feed(0, 0, 0, 0, 0), -1);
        due("end(382)", x.end(382), -1);
        due("end(380)", x.end(380), 380);
        due("feed to 400", x.feed(0, 0, 0, 0, 0), 400);
        due("end(0)", x.end(0), 0);
        due("count(6)", x.count(6), 0);
        due("feed, the highest byte first", x.feed('b' << 24 | 'a' << 16 | 'r' << 8 | 's', 0, 0, 0, 0), 20);
        due("end(4)", x.end(4), 4);
        due("law()", x.law(), 0);
    }

    private static void rows() {
        promise = 11;
        DowryBoxes x = new DowryBoxes();
        due("row()", x.row(), -6);
        due("status()", x.status(), -6);
        x.box(1);
        x.box(1);
        bytes(x, (byte) 1, (byte) 7, (byte) 255, (byte) 0, (byte) 0, (byte) 128, (byte) 1, (byte) 7, (byte) 3);
        due("row()", x.row(), 3);
        due("of(1, 14)", x.of(1, 14), 3);
        due("of(0, 7)", x.of(0, 7), 128);
        due("count(6)", x.count(6), 0);

        promise = 12;
        due("rust()", x.rust(), 0);
        bytes(x, (byte) 2, (byte) 0, (byte) 1, (byte) 0, (byte) 8, (byte) 1, (byte) -1, (byte) 0, (byte) 1,
            (byte) 0, (byte) -1, (byte) 1, (byte) 0, (byte) 1, (byte) 9, (byte) 0, (byte) 2);
        due("row()", x.row(), 1);
        due("rust()", x.rust(), 5);
        due("of(0, 8)", x.of(0, 8), 9);
        due("of(0, 9)", x.of(0, 9), 0);
        due("row() refused", x.row(), -6);
        due("rust() as it was", x.rust(), 5);
    }

    private static void laws() {
        promise = 13;
        DowryBoxes x = new DowryBoxes();
        x.box(9);
        for (int i = 0; i < 6; i++) {
            due("law()", law(x, "lasts " + i), i);
            due("count(6)", x.count(6), 0);
        }
        due("fault()", x.fault(), -1);
        DowryBoxes y = new DowryBoxes();
        due("blanks alone", law(y, "   "), -6);
        due("fault()", y.fault(), 3);
        for (int i = 0; i < 6; i++) {
            law(y, "bars");
        }
        due("a good law", y.fault(), -1);
        due("a FAULT of orders", orders(y, "pass;"), -6);
        due("a seventh", law(y, "nonsense"), -5);
        due("count(6)", y.count(6), 0);
        due("fault() stays", y.fault(), 5);
        due("a seventh of nothing", y.law(), -5);
        due("count(4)", y.count(4), 6);

        promise = 17;
        due("force(6)", x.force(6), -2);
        due("force(-2)", x.force(-2), -2);
        due("of(0, 5) by none", x.of(0, 5), 9);
        due("force(5)", x.force(5), -1);
        due("of(0, 5)", x.of(0, 5), 5);
        due("force(3)", x.force(3), 5);
        due("of(0, 5)", x.of(0, 5), 3);
        due("force(9) refused", x.force(9), -2);
        due("count(12)", x.count(12), 3);
        due("force(-1)", x.force(-1), 3);
        due("status()", x.status(), 0);
        due("force(-1)", x.force(-1), -1);
        due("status()", x.status(), 0);
        due("of(0, 5) by none", x.of(0, 5), 9);
    }

    private static void lawWords() {
        promise = 13;
        due("without", lasts("loses 1"), 8);
        due("box", lasts("lasts box"), 0);
        due("spring", lasts("lasts spring"), 7);
        due("notes", lasts("lasts notes"), 5);
        due("broken", lasts("lasts broken"), 1);
        due("suitor", lasts("lasts suitor + 10"), 9);
        due("ear", lasts("lasts ear + 11"), 10);
        due("wants", lasts("lasts wants + 12"), 11);
        due("year", lasts("lasts year"), 3);
        due("mood", lasts("lasts mood"), 4);
        due("over 60", lasts("lasts 61"), 60);
        due("below 0", lasts("lasts 0 - 1"), 0);
        due("the last that holds", lasts("lasts 1;lasts 2;lasts 3 if 1 = 2"), 2);
        due("a broken sum", lasts("lasts 4;lasts 5 / 0"), 4);
        due("a broken rest", lasts("lasts 4;lasts 5 % 0"), 4);
        due("a broken test", lasts("lasts 4;lasts 5 if 1 / 0 = 0"), 4);
        due("not broken", lasts("lasts 4;lasts 5 if not 1 / 0 = 0"), 4);
        due("or asks no more", lasts("lasts 4;lasts 5 if 1 = 1 or 1 / 0 = 0"), 5);
        due("or asks", lasts("lasts 4;lasts 5 if 1 = 2 or 1 / 0 = 0"), 4);
        due("or broken ahead", lasts("lasts 4;lasts 5 if 1 / 0 = 0 or 1 = 1"), 4);
        due("and asks no more", lasts("lasts 4;lasts 5 if not (1 = 2 and 1 / 0 = 0)"), 5);
        due("and asks", lasts("lasts 4;lasts 5 if not (1 = 1 and 1 / 0 = 0)"), 4);
        due("or of ands", lasts("lasts 4;lasts 5 if 1 = 1 or 1 = 1 and 1 = 2"), 5);
        due("and of a bracket", lasts("lasts 4;lasts 5 if (1 = 1 or 1 = 1) and 1 = 2"), 4);
        due("three ors", lasts("lasts 4;lasts 5 if 1 > 2 or 1 > 3 or 3 > 1 or 1 / 0 = 1"), 5);
        due("three ands", lasts("lasts 4;lasts 5 if 1 < 2 and 1 < 3 and 3 < 1 and 1 / 0 = 1 or 7 = 7"), 5);
        due("not not", lasts("lasts 4;lasts 5 if not not 1 = 1"), 5);
        due("not binds one", lasts("lasts 4;lasts 5 if not 1 = 1 or 1 = 1"), 5);
        due("left to right", lasts("lasts 20 - 3 - 2"), 15);
        due("* ahead of +", lasts("lasts 2 + 3 * 4"), 14);
        due("brackets", lasts("lasts [2 + 3] * 4"), 20);
        due("/ from the left", lasts("lasts 100 / 7 * 2 % 5"), 3);
        due("/ towards 0", lasts("lasts [0 - 7] / 2 + 10"), 7);
        due("% what is left", lasts("lasts [0 - 7] % 2 + 10"), 9);
        due("1,000,000,000", lasts("lasts 1000 * 1000 * 1000 / 1000 / 1000 / 1000"), 1);
        due("as much below 0", lasts("lasts [0 - 1000 * 1000 * 1000] / 1000 / 1000 / 1000 + 3"), 2);
        due("beyond it", lasts("lasts 9;lasts [1000 * 1000 * 1000 + 1] / 1000"), 9);
        due("beyond it below", lasts("lasts 9;lasts 0 - 1000 * 1000 * 1000 - 1"), 9);
        due("far beyond it", lasts("lasts 9;lasts 1000 * 1000 * 1000 * 1000 / 1000 / 1000 / 1000 / 1000"), 9);
        due("no blanks", lasts("lasts 5if 1=1and 2>1;loses2"), 5);
        due("zeros ahead", lasts("lasts 000000000000000000000000008"), 8);
        DowryBoxes x = new DowryBoxes();
        x.box(3);
        law(x, "loses 12;lasts 5;loses 0 - 3 if year = 1");
        x.force(0);
        due("loses over 9", x.of(0, 6), 9);
        due("pass()", x.pass(), 1);
        due("of(0, 0)", x.of(0, 0), 0);
        due("loses below 0", x.of(0, 6), 0);
    }

    private static void ordersRun() {
        promise = 14;
        DowryBoxes x = new DowryBoxes();
        x.box(5);
        x.box(2);
        x.pins(0, 1, 255);
        x.pins(1, 2, 15);
        x.suitor(0, 5);
        x.suitor(1, 6);
        due("orders()", orders(x, "pull done at 1 of 0 times 3"), 3);
        due("of(0, 8)", x.of(0, 8), 0b11111000);
        due("orders()", orders(x, "wed 1 to 0;snap latest of 1;snap latest + 4 of 0 if latest = 3"), 3);
        due("left", x.of(1, 4), 3);
        due("of(1, 2)", x.of(1, 2), 8);
        due("of(0, 2)", x.of(0, 2), 128);
        due("not run at a broken test", orders(x, "pass if 1 / 0 = 0;pass if left 2 = 0 - 1 and notes 5 < 0"), 1);
        due("year", x.count(13), 1);
        due("couples, left, notes", orders(x, "pass if couples = 1 and left 1 = 2 and notes 0 = 4 and notes 1 = 3"), 1);
        due("year", x.count(13), 2);
        due("latest of another text", orders(x, "pass if latest = 0 - 1 and done = 0 and year = 2"), 1);
        due("the couple ended", x.count(2), 0);
        due("nothing run", orders(x, "pass if 1 = 2"), 0);
        due("broken sum", orders(x, "pass times 4;snap 1 / 0 of 0"), -3);
        due("year", x.count(13), 3);

        promise = 16;
        due("stopped()", x.stopped(), 1);
        due("fault()", x.fault(), -1);
        due("orders() refused by -6", orders(x, "pass times 21"), -6);
        due("stopped()", x.stopped(), -1);
        due("the second time", orders(x, "pass;snap 0 of 0 times 2;pass"), -3);
        due("stopped()", x.stopped(), 1);
        due("wrong number", orders(x, "snap 8 of 0"), -3);
        due("no such box", orders(x, "pass;pass;snap 0 of 2"), -3);
        due("stopped()", x.stopped(), 2);
        due("no pin", orders(x, "pull 0 at 0 of 0"), -3);
        due("no such suitor", orders(x, "wed 0 to 2"), -3);
        due("as it was", x.of(0, 2), 128);
        due("year", x.count(13), 3);
        due("fine", orders(x, "pass"), 1);
        due("stopped()", x.stopped(), -1);
        x.terms(0, 990);
        due("to 999", orders(x, "pass times 10"), -3);
        due("year", x.count(13), 990);
        due("to 999", orders(x, "pass times 20 if year < 999"), 9);
        due("year", x.count(13), 999);
        due("empty", x.orders(), -6);
        due("fault()", x.fault(), 0);
    }

    private static void faults() {
        promise = 15;
        lawFault("bars", -1);
        lawFault("lasts 1000", -1);
        lawFault("lasts 1001", 6);
        lawFault("lasts 99999999999999999999", 6);
        lawFault("lasts spring  ", -1);
        lawFault("lasts spring ;  ", 16);
        lawFault(";bars", 0);
        lawFault("bars;;bars", 5);
        lawFault("bars bars", 5);
        lawFault("Bars", 0);
        lawFault("barss", 0);
        lawFault("barsz", 0);
        lawFault("zbars", 0);
        lawFault("abars", 0);
        lawFault("bars`", 4);
        lawFault("bars{", 4);
        lawFault("lasts 9:", 7);
        lawFault("lasts 0/9", -1);
        lawFault("bars\t", 4);
        lawFault("bars" + (char) 233, 4);
        lawFault("likes ear+", 10);
        lawFault("likes +1", 6);
        lawFault("likes (1)", 6);
        lawFault("likes [1)", 8);
        lawFault("likes 1 if 1", 12);
        lawFault("likes 1 if [1 = 1]", 14);
        lawFault("likes 1 if (1) = 1", 13);
        lawFault("likes 1 if 1 < 2 < 3", 17);
        lawFault("likes 1 if (1 < 2) + 1", 19);
        lawFault("likes 1 if not", 14);
        lawFault("likes 1 if 1 = 1 or or", 20);
        lawFault("likes 1 if 1 = 1 and", 20);
        lawFault("likes 1 if 1 = 1 if 1 = 1", 17);
        lawFault("likes done", 6);
        lawFault("likes notes 3", 12);
        lawFault("pass", 0);
        lawFault("loses 1 times 2", 8);
        lawFault(times("bars;", 11) + "bars", -1);
        lawFault(times("bars;", 12) + " bars", 61);
        lawFault(times("bars;", 12), 60);
        lawFault("lasts " + times("1+", 49) + "1", -1);
        lawFault("lasts " + times("1+", 49) + "box +7", 109);
        lawFault("lasts " + times("1+", 50) + " ear", 107);
        lawFault("lasts 1;lasts " + times("1+", 49) + "1", 112);
        lawFault("lasts " + times("[", 8) + "1" + times("]", 8), -1);
        lawFault("lasts " + times("[", 9) + "1" + times("]", 9), 14);
        lawFault("bars if " + times("(", 8) + "1=1" + times(")", 8), -1);
        lawFault("bars if " + times("(", 4) + times("[", 5) + "1=1", 16);
        lawFault("bars if " + times("(", 9) + "1=1", 16);
        lawFault("bars if " + times("not ", 97) + "1=1", -1);
        lawFault("bars if [1]=[[1]] and [[[[[[[[1]]]]]]]]=1", -1);

        ordersFault("pass", -1);
        ordersFault("pass times 20", -1);
        ordersFault("pass times 21", 11);
        ordersFault("pass times 0", 11);
        ordersFault("pass times year", 11);
        ordersFault("pass times 2 times 2", 13);
        ordersFault("pass if 1 = 1 times 2", 14);
        ordersFault("pass 1", 5);
        ordersFault("lasts 1", 0);
        ordersFault("pull 1 to 1", 7);
        ordersFault("pull 1 at 1 at 1", 12);
        ordersFault("pull 1 at 1 of", 14);
        ordersFault("snap 1 at 1", 7);
        ordersFault("snap 1 of 1 of 1", 12);
        ordersFault("wed 1 of 1", 6);
        ordersFault("wed spring to 1", 4);
        ordersFault("wed left to 1", 9);
        ordersFault("wed left 6 to 1", 9);
        ordersFault("wed notes 05 to 1 if 1 = 2", -1);
        ordersFault("pass if notes = 1", 14);
        ordersFault("pass if box = 1", 8);
        ordersFault("pass times 2 if 1=2" + times("or left 1=2", 24), -1);
        ordersFault("pass times 2 if 1=2" + times("or left 1=2", 24) + "or left 9=2", 286);
        ordersFault(times("pass;", 11) + "pass", -1);
        ordersFault(times("pass;", 12) + "x", 60);
        ordersFault("   ", 3);
        lawFault(times("+", 400), 0);
        lawFault("lasts 1" + times("+1", 49) + times(" ", 295), -1);
        lawFault("bars" + times(" ", 395) + "+", 399);
        lawFault("bars" + times(" ", 395) + ";", 400);
        ordersFault("pass" + times(" ", 392) + ";pas", 397);
    }

    private static void deeds() {
        promise = 18;
        DowryBoxes x = new DowryBoxes();
        x.box(6);
        x.box(0);
        x.pins(0, 7, 0b10000011);
        x.suitor(0, 5);
        x.suitor(1, 5);
        due("pull(8, 0, 9)", x.pull(8, 0, 9), -1);
        due("pull(-1, 0, 0)", x.pull(-1, 0, 0), -1);
        due("pull(0, 8, 0)", x.pull(0, 8, 0), -1);
        due("pull(0, -1, 0)", x.pull(0, -1, 0), -1);
        due("pull(0, 0, 2)", x.pull(0, 0, 2), -2);
        due("pull(0, 0, -1)", x.pull(0, 0, -1), -2);
        due("pull(0, 0, 0)", x.pull(0, 0, 0), -3);
        due("pull(7, 7, 0)", x.pull(7, 7, 0), 2);
        due("of(0, 14)", x.of(0, 14), 3);

        promise = 19;
        due("snap(8, 9)", x.snap(8, 9), -1);
        due("snap(-1, 0)", x.snap(-1, 0), -1);
        due("snap(0, 2)", x.snap(0, 2), -2);
        due("snap(1, 0)", x.snap(1, 0), 1);
        due("snap(1, 0)", x.snap(1, 0), -3);
        due("snap(5, 0)", x.snap(5, 0), 1);
        due("of(0, 2)", x.of(0, 2), 0b100010);
        promise = 18;
        due("pull of a broken tooth's pin", x.pull(1, 7, 0), 1);
        due("of(0, 14)", x.of(0, 14), 1);

        promise = 20;
        due("wed(2, 0)", x.wed(2, 0), -2);
        due("wed(0, 2)", x.wed(0, 2), -2);
        due("wed(-1, -1)", x.wed(-1, -1), -2);
        due("wed(1, 0), it lasts 0", x.wed(1, 0), -3);
        law(x, "bars if suitor = 0;loses 2;lasts 2");
        x.force(0);
        due("wed(0, 0), barred", x.wed(0, 0), -3);
        due("wed(0, 1)", x.wed(0, 1), 2);
        due("wed(0, 1) again", x.wed(0, 1), -3);
        due("wed(1, 1), he is wed", x.wed(1, 1), -3);
        due("of(0, 3)", x.of(0, 3), 1);
        due("of(0, 4)", x.of(0, 4), 2);

        promise = 21;
        due("pass()", x.pass(), 1);
        due("of(0, 0)", x.of(0, 0), 4);
        due("of(1, 0)", x.of(1, 0), 0);
        due("of(0, 4)", x.of(0, 4), 1);
        due("of(0, 3)", x.of(0, 3), 1);
        due("pass()", x.pass(), 2);
        due("of(0, 4)", x.of(0, 4), 0);
        due("of(0, 3)", x.of(0, 3), -1);
        due("at(1, 2)", x.at(1, 2), -1);
        x.terms(0, 998);
        due("pass()", x.pass(), 999);
        due("pass()", x.pass(), -3);
        DowryBoxes y = new DowryBoxes();
        y.box(9);
        law(y, "loses 3 if year = 0;loses spring if year = 1");
        y.force(0);
        y.pass();
        due("asked as it was ahead", y.of(0, 0), 6);
        y.pass();
        due("asked as it was ahead", y.of(0, 0), 0);
    }

    private static void undoing() {
        promise = 22;
        DowryBoxes x = new DowryBoxes();
        due("undo()", x.undo(), -3);
        x.box(9);
        x.pins(0, 0, 7);
        x.suitor(0, 4);
        law(x, "loses 4;lasts 1");
        x.force(0);
        x.pull(0, 0, 0);
        x.snap(1, 0);
        x.wed(0, 0);
        x.pass();
        due("of(0, 3)", x.of(0, 3), -1);
        due("undo()", x.undo(), 3);
        due("of(0, 3)", x.of(0, 3), 0);
        due("of(0, 4)", x.of(0, 4), 1);
        due("of(0, 0)", x.of(0, 0), 9);
        due("count(13)", x.count(13), 0);
        due("undo()", x.undo(), 2);
        due("of(0, 3)", x.of(0, 3), -1);
        due("undo()", x.undo(), 1);
        due("of(0, 2)", x.of(0, 2), 0);
        due("count(12): what is no deed stays", x.count(12), 0);
        due("undo()", x.undo(), 0);
        due("of(0, 7)", x.of(0, 7), 7);
        due("undo()", x.undo(), -3);
        due("orders()", orders(x, "pass times 20"), 20);
        due("count(5)", x.count(5), 16);
        for (int i = 0; i < 16; i++) {
            due("undo()", x.undo(), 3);
        }
        due("undo()", x.undo(), -3);
        due("count(13)", x.count(13), 4);
        x.pass();
        x.pass();
        due("orders() that can't be", orders(x, "pass times 20;snap 8 of 0"), -3);
        due("count(5)", x.count(5), 2);
        due("undo()", x.undo(), 3);
        due("count(13)", x.count(13), 5);
        for (int ahead = 0; ahead < 36; ahead++) {
            ordersThatFail(ahead);
        }
        x.hear(0, 0, 0);
        law(x, "bars");
        x.force(-1);
        x.image(0);
        x.generations(1, 1);
        due("count(5)", x.count(5), 1);
        x.box(-1);
        x.pins(0, 8, 0);
        x.suitor(9, 9);
        x.terms(0, -1);
        x.row();
        due("count(5) behind refused calls", x.count(5), 1);
        x.pins(0, 0, 7);
        due("count(5) behind pins()", x.count(5), 0);
        x.pass();
        x.box(1);
        due("count(5) behind box()", x.count(5), 0);
        x.pass();
        x.suitor(1, 1);
        due("count(5) behind suitor()", x.count(5), 0);
        x.pass();
        x.terms(1, 2);
        due("count(5) behind terms()", x.count(5), 0);
        x.pass();
        bytes(x, (byte) 99);
        due("row()", x.row(), 0);
        due("count(5) behind row()", x.count(5), 0);
        due("undo()", x.undo(), -3);
    }

    /** However many deeds there were ahead of ORDERS that can't be, all of them can be undone behind these. */
    private static void ordersThatFail(int ahead) {
        DowryBoxes x = new DowryBoxes();
        for (int i = 0; i < ahead; i++) {
            x.pass();
        }
        due("orders()", orders(x, "pass times 17;snap 0 of 0"), -3);
        int kept = Math.min(ahead, 16);
        due("count(5) behind " + ahead, x.count(5), kept);
        for (int i = 1; i <= kept; i++) {
            due("undo() behind " + ahead, x.undo(), 3);
            due("year", x.count(13), ahead - i);
        }
        due("undo() behind " + ahead, x.undo(), -3);
    }

    private static void hearing() {
        promise = 23;
        DowryBoxes x = new DowryBoxes();
        due("hear(8, 0, 0)", x.hear(8, 0, 0), -1);
        due("hear(0, -1, 0)", x.hear(0, -1, 0), -1);
        due("hear(0, 0, 2)", x.hear(0, 0, 2), -1);
        for (int i = 0; i < 8; i++) {
            due("hear(0, 0, 1)", x.hear(0, 0, 1), i + 1);
        }
        due("hear(0, 0, 1), a ninth", x.hear(0, 0, 1), -5);
        due("hear(8, 0, 1), a ninth", x.hear(8, 0, 1), -1);

        promise = 24;
        due("forget()", x.forget(), 8);
        due("status() is not forget()'s", x.status(), -1);
        due("forget()", x.forget(), 0);

        promise = 25;
        for (int i = 0; i < 4; i++) {
            x.box(1);
        }
        x.pins(0, 0, 0b0011);
        x.pins(1, 0, 0b0101);
        x.pins(2, 0, 0b0110);
        x.pins(3, 2, 0b10000000);
        due("which()", x.which(), 15);
        x.hear(0, 0, 1);
        due("which()", x.which(), 3);
        x.hear(0, 1, 0);
        due("which()", x.which(), 2);
        x.hear(2, 7, 1);
        due("which()", x.which(), 0);

        promise = 26;
        due("listen(0), none it can be", x.listen(0), -1);
        x.forget();
        due("listen(0)", x.listen(0), 0);
        due("listen(1)", x.listen(1), 2);
        x.snap(0, 0);
        due("listen(0): tooth 0 tells one of four", x.listen(0), 1);
        due("listen(1)", x.listen(1), 2);
        x.hear(0, 2, 0);
        due("which()", x.which(), 9);
        due("listen(0)", x.listen(0), 1);
        due("listen(1)", x.listen(1), 1);
        x.snap(1, 0);
        due("listen(0)", x.listen(0), 27);
        due("listen(2)", x.listen(2), -1);
        due("listen(-1)", x.listen(-1), -1);
    }

    private static void matching() {
        promise = 27;
        DowryBoxes x = new DowryBoxes();
        x.box(5);
        x.box(5);
        x.box(9);
        x.suitor(0, 5);
        x.suitor(1, 8);
        x.pins(0, 0, 0b00);
        x.pins(1, 0, 0b01);
        due("steady(0)", x.steady(0), 1);
        due("steady(1)", x.steady(1), 0);
        due("steady(2), liked as box 0", x.steady(2), -1);
        x.pins(2, 3, 0b10);
        due("steady(2)", x.steady(2), 1);
        due("steady(0)", x.steady(0), -1);
        due("steady(3)", x.steady(3), -1);
        due("steady(-1)", x.steady(-1), -1);
        x.wed(1, 0);
        due("steady(1), wed", x.steady(1), -1);
        due("steady(0)", x.steady(0), -1);
        law(x, "bars if box = 2");
        x.force(0);
        due("steady(2), barred", x.steady(2), -1);
        due("steady(0)", x.steady(0), 1);

        promise = 28;
        DowryBoxes y = new DowryBoxes();
        y.box(10);
        y.box(12);
        y.box(20);
        y.suitor(0, 11);
        y.suitor(0, 11);
        y.suitor(0, 12);
        due("about(0, 0)", y.about(0, 0), 1);
        due("about(0, 2)", y.about(0, 2), 100);
        due("about(0, 3)", y.about(0, 3), 2);
        due("about(1, 0)", y.about(1, 0), 2);
        due("about(1, 1)", y.about(1, 1), 1);
        due("about(1, 2)", y.about(1, 2), 0);
        due("about(1, 3)", y.about(1, 3), 2);
        due("about(1, 4)", y.about(1, 4), 100);
        due("about(8, 0)", y.about(8, 0), 3);
        due("about(8, 1)", y.about(8, 1), 10);
        due("about(8, 2)", y.about(8, 2), 0);
        due("about(8, 3)", y.about(8, 3), 1);
        due("about(8, 4)", y.about(8, 4), 2);
        due("about(61, 0)", y.about(61, 0), -1);
        due("about(-1, 0)", y.about(-1, 0), -1);
        due("about(0, -1)", y.about(0, -1), -1);
        due("about(0, 5)", y.about(0, 5), -1);
        y.wed(1, 1);
        due("about(60, 3), wed", y.about(60, 3), -1);
        due("about(60, 0)", y.about(60, 0), 2);
        due("about(60, 1)", y.about(60, 1), 9);
        law(y, "bars if suitor = 0 and box = 0");
        y.force(0);
        due("about(60, 1)", y.about(60, 1), 11);
        due("about(60, 2)", y.about(60, 2), 2);
        due("about(8, 0)", y.about(8, 0), 1);
        due("about(8, 2)", y.about(8, 2), 2);
        due("about(8, 4)", y.about(8, 4), 100);
    }

    private static void tunes() {
        promise = 29;
        DowryBoxes x = new DowryBoxes();
        x.box(1);
        x.pins(0, 3, 0b1111);
        due("keep(0, 4, -1)", x.keep(0, 4, -1), 0);
        due("keep(0, 3, -1)", x.keep(0, 3, -1), 2);
        due("keep(0, 3, 2)", x.keep(0, 3, 2), 1);
        due("keep(0, 3, 4)", x.keep(0, 3, 4), 1);
        due("keep(0, 3, 3)", x.keep(0, 3, 3), 15);
        due("keep(0, 2, -1)", x.keep(0, 2, -1), 4);
        due("keep(0, 1, -1)", x.keep(0, 1, -1), 12);
        due("keep(0, 1, 0)", x.keep(0, 1, 0), 1);
        due("keep(0, 1, 7)", x.keep(0, 1, 7), 0);
        due("keep(0, 0, -1)", x.keep(0, 0, -1), 28);
        due("keep(0, 8, -1)", x.keep(0, 8, -1), 0);
        due("keep(0, 9, -1)", x.keep(0, 9, -1), -1);
        due("keep(0, -1, -1)", x.keep(0, -1, -1), -1);
        due("keep(0, 0, 8)", x.keep(0, 0, 8), -1);
        due("keep(0, 0, -2)", x.keep(0, 0, -2), -1);
        due("keep(1, 0, -1)", x.keep(1, 0, -1), -1);
        x.snap(0, 0);
        due("keep(0, 3, -1), by pins", x.keep(0, 3, -1), 2);

        promise = 30;
        DowryBoxes y = new DowryBoxes();
        y.box(1);
        y.box(1);
        y.pins(0, 6, 0b10000001);
        y.pins(0, 1, 0b00010000);
        y.pins(1, 0, 0b01000010);
        y.pins(1, 1, 0b00111000);
        due("clash(0, 1, 0)", y.clash(0, 1, 0), 2);
        due("clash(0, 1, 2)", y.clash(0, 1, 2), 2);
        due("clash(1, 0, 6)", y.clash(1, 0, 6), 2);
        due("clash(0, 1, 3)", y.clash(0, 1, 3), 0);
        due("clash(0, 1, 8)", y.clash(0, 1, 8), -1);
        due("clash(0, 1, -1)", y.clash(0, 1, -1), -1);
        due("clash(1, 1, 0)", y.clash(1, 1, 0), -1);
        due("clash(0, 2, 0)", y.clash(0, 2, 0), -1);
        due("clash(-1, 0, 0)", y.clash(-1, 0, 0), -1);

        promise = 31;
        due("best(0, 1, 0)", y.best(0, 1, 0), 1);
        due("best(0, 1, 1)", y.best(0, 1, 1), 0);
        due("best(0, 1, 2)", y.best(0, 1, 2), -1);
        due("best(0, 0, 0)", y.best(0, 0, 0), -1);
        for (int bar = 0; bar < 8; bar++) {
            y.pins(0, bar, 0b100);
            y.pins(1, bar, bar == 5 ? 0b10 : 0b1010);
        }
        y.pins(0, 3, 0b10100);
        due("best(0, 1, 0)", y.best(0, 1, 0), 2);
        due("best(0, 1, 1)", y.best(0, 1, 1), 15);

        promise = 32;
        DowryBoxes z = new DowryBoxes();
        z.box(1);
        z.box(1);
        z.pins(0, 0, 0b0101);
        z.pins(0, 1, 0b1000);
        z.pins(1, 0, 0b0010);
        z.pins(1, 1, 0b0100);
        due("filed(0, 1, 0, 0)", z.filed(0, 1, 0, 0), 2);
        due("filed(0, 1, 0, 1)", z.filed(0, 1, 0, 1), 0);
        due("filed(0, 1, 0, 2)", z.filed(0, 1, 0, 2), 0b0110);
        due("filed(1, 0, 0, 1)", z.filed(1, 0, 0, 1), 0b0010);
        due("filed(1, 0, 0, 2)", z.filed(1, 0, 0, 2), 0b1000);
        due("filed(0, 1, 1, 0)", z.filed(0, 1, 1, 0), 0);
        due("filed(0, 1, 0, 3)", z.filed(0, 1, 0, 3), -1);
        due("filed(0, 1, 0, -1)", z.filed(0, 1, 0, -1), -1);
        due("filed(0, 1, 8, 0)", z.filed(0, 1, 8, 0), -1);
        due("filed(0, 0, 0, 0)", z.filed(0, 0, 0, 0), -1);
        due("filed(0, 2, 0, 0)", z.filed(0, 2, 0, 0), -1);

        promise = 34;
        due("again(0, -1)", z.again(0, -1), 15);
        due("again(0, 14)", z.again(0, 14), 67);
        due("again(0, 15)", z.again(0, 15), -1);
        z.snap(3, 0);
        due("again(0, -1)", z.again(0, -1), 21);
        due("again(0, 0)", z.again(0, 0), 12);
        due("again(0, 6)", z.again(0, 6), 23);
        due("again(0, -2)", z.again(0, -2), -1);
        due("again(2, -1)", z.again(2, -1), -1);
    }

    private static void sharing() {
        promise = 33;
        DowryBoxes x = new DowryBoxes();
        int[] springs = {8, 7, 6, 5, 4};
        for (int spring : springs) {
            x.box(spring);
        }
        due("shares(1, 0)", x.shares(1, 0), 30);
        due("shares(2, 0)", x.shares(2, 0), 15);
        long[] two = {0, 0, 1, 1, 1};
        for (int b = 0; b < 5; b++) {
            due("shares(2, " + (1 + b) + ")", x.shares(2, 1 + b), two[b]);
        }
        due("shares(3, 0)", x.shares(3, 0), 8);
        long[] three = {0, 1, 1, 2, 2};
        for (int b = 0; b < 5; b++) {
            due("shares(3, " + (1 + b) + ")", x.shares(3, 1 + b), three[b]);
        }
        due("shares(1, 5)", x.shares(1, 5), 0);
        due("shares(2, 6)", x.shares(2, 6), -1);
        due("shares(2, -1)", x.shares(2, -1), -1);
        due("shares(0, 0)", x.shares(0, 0), -1);
        due("shares(4, 0)", x.shares(4, 0), -1);
        law(x, "lasts 1 if box < 3;lasts 0 if box > 2");
        x.force(0);
        due("shares(3, 0) by a law", x.shares(3, 0), 1);
        due("shares(3, 2)", x.shares(3, 2), 1);
        due("shares(3, 5)", x.shares(3, 5), 0);
    }

    private static void paperYears() {
        promise = 35;
        DowryBoxes x = new DowryBoxes();
        x.box(3);
        x.box(1);
        x.box(2);
        x.suitor(0, 0);
        x.suitor(0, 0);
        x.wed(0, 0);
        x.wed(1, 1);
        due("ends(0)", x.ends(0), 3);
        due("ends(1)", x.ends(1), 1);
        due("ends(2)", x.ends(2), 1);
        due("ends(3)", x.ends(3), 0);
        due("ends(60)", x.ends(60), 0);
        due("ends(61)", x.ends(61), -1);
        due("ends(-1)", x.ends(-1), -1);

        promise = 36;
        due("stands(1, 0)", x.stands(1, 0), 1000000000000L);
        due("stands(1, 1)", x.stands(1, 1), 800000000000L);
        due("stands(1, 2)", x.stands(1, 2), 640000000000L);
        due("stands(2, 2)", x.stands(2, 2), 960000000000L);
        due("stands(2, 61)", x.stands(2, 61), -1);
        due("stands(2, -1)", x.stands(2, -1), -1);
        due("stands(3, 0)", x.stands(3, 0), -1);
        x.terms(1, 10);
        due("stands(0, 2)", x.stands(0, 2), 1000000000000L);
        due("stands(0, 3)", x.stands(0, 3), 0);
        x.terms(1, 0);
        due("stands(0, 60)", x.stands(0, 60), 1000000000000L);
        x.terms(1, 9);
        due("stands(1, 12)", x.stands(1, 12), 1);
        due("stands(1, 13), cut", x.stands(1, 13), 0);
        x.terms(1, 5);
        due("stands(1, 13), cut each year", x.stands(1, 13), 122070312);
        x.box(0);
        due("stands(3, 0) of no spring", x.stands(3, 0), 0);

        promise = 37;
        due("compare(-1)", x.compare(-1), 6);
        law(x, "lasts 60");
        law(x, "lasts box if box > 0");
        due("compare(0)", x.compare(0), 240);
        due("compare(1)", x.compare(1), 9);
        due("compare(2)", x.compare(2), -1);
        due("compare(-2)", x.compare(-2), -1);
        due("count(12) stays", x.count(12), -1);
        x.force(0);
        due("compare(-1) in place of that in force", x.compare(-1), 6);

        promise = 38;
        DowryBoxes y = new DowryBoxes();
        due("generations(0, 1)", y.generations(0, 1), -3);
        due("generations(-1, 1)", y.generations(-1, 1), -1);
        due("generations(1000001, 1)", y.generations(1000001, 1), -1);
        due("generations(0, 0)", y.generations(0, 0), -1);
        due("generations(0, 61)", y.generations(0, 61), -1);
        due("drawn(0, 0)", y.drawn(0, 0), -1);
        y.box(20);
        for (int bar = 0; bar < 8; bar++) {
            y.pins(0, bar, 255);
        }
        y.suitor(0, 0);
        y.wed(0, 0);
        due("of(0, 4)", y.of(0, 4), 36);
        // From seed 0: 12345, 628841, 621889, 953857, whose rests by 1, 8, 8, 3 are 0, 1, 1, 1: tooth 1 is snapped.
        due("generations(0, 1)", y.generations(0, 1), 0);
        promise = 39;
        due("drawn(0, 0)", y.drawn(0, 0), 56);
        due("drawn(0, 1)", y.drawn(0, 1), 20);
        due("drawn(0, 2)", y.drawn(0, 2), 35);
        due("drawn(0, 3)", y.drawn(0, 3), -1);
        due("drawn(0, -1)", y.drawn(0, -1), -1);
        due("drawn(1, 0)", y.drawn(1, 0), -1);
        due("of(0, 1): on paper", y.of(0, 1), 64);
        due("count(13): on paper", y.count(13), 0);
        due("generations(0, 36)", y.generations(0, 36), 1);
        due("drawn(0, 2)", y.drawn(0, 2), 0);
        y.terms(0, 999);
        due("generations at 999", y.generations(1000000, 60), 0);
        due("drawn(0, 2)", y.drawn(0, 2), 36);
        due("generations refused", y.generations(0, 0), -1);
        due("drawn(0, 2) stays", y.drawn(0, 2), 36);
        y.box(1);
        due("drawn(1, 0): there was none then", y.drawn(1, 0), -1);
    }

    private static void images() {
        promise = 40;
        DowryBoxes x = new DowryBoxes();
        due("image(-1)", x.image(-1), -1);
        due("image(2)", x.image(2), -1);
        due("back(2)", x.back(2), -1);
        due("back(0)", x.back(0), -2);
        x.box(5);
        x.pins(0, 0, 3);
        x.suitor(2, 5);
        x.hear(0, 0, 1);
        x.terms(1, 7);
        x.terms(2, 6);
        law(x, "lasts 11");
        law(x, "lasts 12");
        x.force(1);
        due("image(0)", x.image(0), 0);
        x.box(6);
        x.pull(1, 0, 0);
        x.snap(0, 0);
        x.suitor(3, 6);
        x.wed(0, 0);
        x.pass();
        x.forget();
        law(x, "lasts 13");
        x.force(2);
        x.terms(1, 1);
        x.terms(2, 1);
        due("image(1)", x.image(1), 0);
        due("a fault", law(x, "bars bars"), -6);
        bytes(x, (byte) 77, (byte) 77);
        due("row()", x.row(), 0);
        x.generations(3, 2);
        due("drawn(1, 1)", x.drawn(1, 1) >= 4 ? 1 : 0, 1);
        orders(x, "pass;snap 0 of 0");
        x.pass();
        bytes(x, (byte) 'x');

        promise = 41;
        due("back(0)", x.back(0), 0);
        due("count(0)", x.count(0), 1);
        due("count(1)", x.count(1), 1);
        due("count(2)", x.count(2), 0);
        due("count(3)", x.count(3), 1);
        due("count(4)", x.count(4), 2);
        due("count(5)", x.count(5), 0);
        due("count(12)", x.count(12), 1);
        due("count(13)", x.count(13), 0);
        due("count(14)", x.count(14), 7);
        due("count(15)", x.count(15), 6);
        due("of(0, 7)", x.of(0, 7), 3);
        due("of(0, 2)", x.of(0, 2), 0);
        due("of(0, 3)", x.of(0, 3), -1);
        due("of(0, 5)", x.of(0, 5), 12);
        due("count(6) stays", x.count(6), 1);
        due("fault() stays", x.fault(), -1);
        due("stopped() stays", x.stopped(), 1);
        due("rust() stays", x.rust(), 1);
        due("drawn(1, 1) stays", x.drawn(1, 1) >= 4 ? 1 : 0, 1);
        due("count(7) stays", x.count(7), 3);
        due("undo()", x.undo(), -3);
        x.end(0);
        due("another law 2", law(x, "lasts 14"), 2);
        x.force(2);
        due("of(0, 5)", x.of(0, 5), 14);
        due("box(9) is a new one", x.box(9), 1);
        due("of(1, 0)", x.of(1, 0), 9);
        due("back(1)", x.back(1), 0);
        due("of(0, 5)", x.of(0, 5), 13);
        due("of(1, 0)", x.of(1, 0), 6);
        due("of(0, 3)", x.of(0, 3), 0);
        due("at(1, 1)", x.at(1, 1), 6);
        due("back(0) again", x.back(0), 0);
        due("count(4)", x.count(4), 2);
        DowryBoxes y = new DowryBoxes();
        y.box(1);
        y.image(0);
        law(y, "lasts 21");
        y.force(0);
        y.image(1);
        y.back(0);
        due("law 0 anew", law(y, "lasts 22"), 0);
        due("force(0)", y.force(0), -1);
        due("of(0, 5)", y.of(0, 5), 22);
        y.suitor(3, 33);
        y.hear(3, 4, 1);
        y.pins(0, 3, 8);
        y.back(1);
        due("law 0 as it was", y.of(0, 5), 21);
        due("suitor 0 anew", y.suitor(5, 55), 0);
        y.hear(5, 6, 0);
        y.pins(0, 5, 32);
        y.image(0);
        y.back(1);
        y.suitor(6, 6);
        y.hear(0, 0, 1);
        due("which()", y.which(), 0);
        y.back(0);
        due("at(0, 0)", y.at(0, 0), 5);
        due("at(0, 1)", y.at(0, 1), 55);
        due("which()", y.which(), 1);
        due("of(0, 12)", y.of(0, 12), 32);
        due("of(0, 10)", y.of(0, 10), 0);
    }

    private static void counts() {
        promise = 42;
        DowryBoxes x = new DowryBoxes();
        due("count(-1)", x.count(-1), -1);
        due("count(16)", x.count(16), -1);
        x.box(1);
        x.suitor(0, 0);
        x.suitor(0, 0);
        x.wed(0, 1);
        x.hear(0, 0, 0);
        x.hear(0, 0, 0);
        x.hear(0, 0, 0);
        due("count(0)", x.count(0), 1);
        due("count(1)", x.count(1), 2);
        due("count(2)", x.count(2), 1);
        due("count(3)", x.count(3), 3);
        due("count(5)", x.count(5), 1);

        promise = 43;
        x.box(99);
        due("status() of box", x.status(), -1);
        x.pins(9, 0, 0);
        due("status() of pins", x.status(), -2);
        x.suitor(0, 0);
        due("status() of suitor", x.status(), 0);
        x.terms(9, 0);
        due("status() of terms", x.status(), -1);
        x.law();
        due("status() of law", x.status(), -6);
        x.feed(0, 0, 0, 0, 0);
        x.end(900);
        due("status() is not feed()'s, end()'s", x.status(), -6);
        x.row();
        due("status() of row", x.status(), 0);
        x.orders();
        due("status() of orders", x.status(), -6);
        x.force(0);
        due("status() of force", x.status(), -2);
        x.pull(0, 0, 0);
        due("status() of pull", x.status(), -3);
        x.snap(0, 9);
        due("status() of snap", x.status(), -2);
        x.wed(0, 0);
        due("status() of wed", x.status(), -3);
        x.pass();
        due("status() of pass", x.status(), 0);
        x.undo();
        x.undo();
        due("status() of undo", x.status(), -3);
        x.hear(0, 0, 9);
        due("status() of hear", x.status(), -1);
        x.of(9, 9);
        x.compare(9);
        due("status() is not of()'s", x.status(), -1);
        x.generations(1, 1);
        due("status() of generations", x.status(), 0);
        x.image(7);
        due("status() of image", x.status(), -1);
        x.back(1);
        due("status() of back", x.status(), -2);
        promise = 42;
        due("count(7)", x.count(7), 4);
        due("count(8)", x.count(8), 4);
        due("count(9)", x.count(9), 3);
        due("count(10)", x.count(10), 0);
        due("count(11)", x.count(11), 2);
        for (int i = 0; i < 9; i++) {
            x.hear(0, 0, 0);
        }
        due("count(10)", x.count(10), 4);
    }
}
