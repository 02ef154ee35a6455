import java.util.Arrays;

/** Musical boxes that are dowries. The project's document says, promise by promise, what each call answers. */
public final class DowryBoxes {
    public static final int NONE = -1;

    private static final int BOXES = 6;
    private static final int SUITORS = 6;
    private static final int BARS = 8;
    private static final int TEETH = 8;
    private static final int SETS = 256;
    private static final int MOST_HEARD = 8;
    private static final int LAWS = 6;
    private static final int IMAGES = 2;
    private static final int TAPE_ROOM = 400;
    private static final int FED = 20;
    private static final int DEEDS_KEPT = 16;
    private static final int MOST_SPRING = 20;
    private static final int MOST_YEARS = 60;
    private static final int MOST_SEED = 1000000;
    private static final int LAST_YEAR = 999;
    private static final int UNMATCHED = 100;

    private static final int YEAR = 0;
    private static final int DAMP = 1;
    private static final int MOOD = 2;
    private static final int TERMS = 3;
    private static final int[] MOST_OF_TERM = {999, 10, 9};

    private static final int BAD_NUMBER = -1;
    private static final int NO_SUCH = -2;
    private static final int CANT_BE = -3;
    private static final int NO_ROOM = -5;
    private static final int BAD_TEXT = -6;
    private static final int REASONS = 6;

    private final Village now;
    private final Village[] images = new Village[IMAGES];
    private final boolean[] imageKept = new boolean[IMAGES];
    private final Judge judge;
    private final Deeds deeds;
    private final Generations paper;
    private final Matching matching = new Matching();
    private final Tunes tunes = new Tunes();
    private final Reader reader;
    private final int[] tape = new int[TAPE_ROOM];
    private int tapeBytes = 0;
    private int rusty = 0;
    private int stoppedAt = NONE;
    private int refusedBy = 0;
    private final int[] refusals = new int[REASONS + 1];
    private final long[] parts = new long[MOST_SPRING + 1];
    private final int[] lasting = new int[BOXES];
    private final int[] shareRow = new int[BOXES];

    public DowryBoxes() {
        Reader texts = new Reader();
        Text noLaw = new Text(0, texts);
        Village village = new Village(noLaw);
        for (int k = 0; k < IMAGES; k++) {
            images[k] = new Village(noLaw);
        }
        Sums sums = new Sums();
        Judge asked = new Judge(sums);
        Deeds doer = new Deeds(village, asked, sums);
        reader = texts;
        now = village;
        judge = asked;
        deeds = doer;
        paper = new Generations(doer);
    }

    // ---- boxes, suitors, terms ----

    public int box(int spring) {
        if (spring < 0 || spring > MOST_SPRING) {
            return refuse(BAD_NUMBER);
        }
        Valley valley = now.valley;
        if (valley.boxes >= BOXES) {
            return refuse(NO_ROOM);
        }
        deeds.history.clear();
        int number = valley.boxes;
        valley.boxes++;
        valley.spring[number] = spring;
        return grant(number);
    }

    public int of(int box, int what) {
        Valley valley = now.valley;
        if (!valley.hasBox(box)) {
            return NONE;
        }
        switch (what) {
            case 0: return valley.spring[box];
            case 1: return valley.notes(box);
            case 2: return valley.broken[box];
            case 3: return valley.mate[box];
            case 4: return valley.left[box];
            case 5: return judge.lasting(now.lawInForce(), valley, box);
            case 6: return judge.losing(now.lawInForce(), valley, box);
            default: return what >= 7 && isBar(what - 7) ? valley.pins[box * BARS + what - 7] : NONE;
        }
    }

    public int pins(int box, int bar, int teeth) {
        if (!isBar(bar) || teeth < 0 || teeth >= SETS) {
            return refuse(BAD_NUMBER);
        }
        Valley valley = now.valley;
        if (!valley.hasBox(box)) {
            return refuse(NO_SUCH);
        }
        deeds.history.clear();
        int were = valley.pins[box * BARS + bar];
        valley.pins[box * BARS + bar] = teeth;
        return grant(were);
    }

    public int suitor(int ear, int wants) {
        if (!isTooth(ear) || !isYears(wants)) {
            return refuse(BAD_NUMBER);
        }
        if (now.suitors >= SUITORS) {
            return refuse(NO_ROOM);
        }
        deeds.history.clear();
        int number = now.suitors;
        now.suitors++;
        now.ear[number] = ear;
        now.wants[number] = wants;
        return grant(number);
    }

    public int at(int suitor, int what) {
        if (!now.hasSuitor(suitor)) {
            return NONE;
        }
        switch (what) {
            case 0: return now.ear[suitor];
            case 1: return now.wants[suitor];
            case 2: return now.valley.boxOf(suitor);
            default: return NONE;
        }
    }

    public int asks(int box, int suitor, int what) {
        if (!now.valley.hasBox(box) || !now.hasSuitor(suitor)) {
            return NONE;
        }
        switch (what) {
            case 0: return now.valley.barsWith(box, now.ear[suitor]);
            case 1: return judge.liking(now, box, suitor);
            case 2: return judge.isBarred(now, box, suitor) ? 1 : 0;
            default: return NONE;
        }
    }

    public int terms(int what, int value) {
        if (what < 0 || what >= TERMS || value < 0 || value > MOST_OF_TERM[what]) {
            return refuse(BAD_NUMBER);
        }
        deeds.history.clear();
        int was = now.valley.term[what];
        now.valley.term[what] = value;
        return grant(was);
    }

    // ---- the tape ----

    public int feed(int a, int b, int c, int d, int e) {
        if (tapeBytes + FED > TAPE_ROOM) {
            return NONE;
        }
        feedNumber(a);
        feedNumber(b);
        feedNumber(c);
        feedNumber(d);
        feedNumber(e);
        return tapeBytes;
    }

    private void feedNumber(int number) {
        for (int shift = 24; shift >= 0 && tapeBytes < TAPE_ROOM; shift -= 8) {
            tape[tapeBytes] = number >>> shift & 255;
            tapeBytes++;
        }
    }

    public int end(int n) {
        if (n < 0 || n > tapeBytes) {
            return NONE;
        }
        tapeBytes = n;
        return n;
    }

    public int row() {
        if (tapeBytes == 0) {
            return refuse(BAD_TEXT);
        }
        deeds.history.clear();
        int told = 0;
        rusty = 0;
        for (int i = 0; i < tapeBytes; i += 3) {
            if (i + 2 < tapeBytes && now.valley.hasBox(tape[i]) && isBar(tape[i + 1])) {
                now.valley.pins[tape[i] * BARS + tape[i + 1]] = tape[i + 2];
                told++;
            } else {
                rusty++;
            }
        }
        tapeBytes = 0;
        return grant(told);
    }

    public int rust() {
        return rusty;
    }

    public int law() {
        int bytes = tapeBytes;
        tapeBytes = 0;
        if (now.laws >= LAWS) {
            return refuse(NO_ROOM);
        }
        Text text = reader.read(tape, bytes, false);
        if (text == null) {
            return refuse(BAD_TEXT);
        }
        int number = now.laws;
        now.laws++;
        now.lawTexts[number] = text;
        return grant(number);
    }

    public int orders() {
        int bytes = tapeBytes;
        tapeBytes = 0;
        stoppedAt = NONE;
        Text text = reader.read(tape, bytes, true);
        if (text == null) {
            return refuse(BAD_TEXT);
        }
        deeds.beginOrders();
        for (int clause = 0; clause < text.clauses; clause++) {
            for (int time = 0; time < text.times[clause]; time++) {
                if (!deeds.runOnce(text, clause)) {
                    deeds.dropOrders();
                    stoppedAt = clause;
                    return refuse(CANT_BE);
                }
            }
        }
        return grant(deeds.done);
    }

    public int fault() {
        return reader.faultAt;
    }

    public int stopped() {
        return stoppedAt;
    }

    public int force(int law) {
        if (law != NONE && !now.hasLaw(law)) {
            return refuse(NO_SUCH);
        }
        int was = now.inForce;
        now.inForce = law;
        return grant(was);
    }

    // ---- deeds ----

    public int pull(int tooth, int bar, int box) {
        return settle(deeds.pullPin(tooth, bar, box));
    }

    public int snap(int tooth, int box) {
        return settle(deeds.snapTooth(tooth, box));
    }

    public int wed(int box, int suitor) {
        return settle(deeds.wedBox(box, suitor));
    }

    public int pass() {
        return settle(deeds.passYear());
    }

    public int undo() {
        int kind = deeds.history.takeBack(now.valley);
        return settle(kind == NONE ? CANT_BE : kind);
    }

    // ---- what was heard ----

    public int hear(int bar, int tooth, int sounded) {
        if (!isBar(bar) || !isTooth(tooth) || sounded < 0 || sounded > 1) {
            return refuse(BAD_NUMBER);
        }
        if (now.heard >= MOST_HEARD) {
            return refuse(NO_ROOM);
        }
        now.heardBar[now.heard] = bar;
        now.heardTooth[now.heard] = tooth;
        now.heardSounded[now.heard] = sounded;
        now.heard++;
        return grant(now.heard);
    }

    public int forget() {
        int was = now.heard;
        now.heard = 0;
        return was;
    }

    public int which() {
        return now.boxesHeard();
    }

    public int listen(int what) {
        int heard = now.boxesHeard();
        if (heard == 0 || what < 0 || what > 1) {
            return NONE;
        }
        int all = Integer.bitCount(heard);
        int fewest = BOXES + 1;
        int place = NONE;
        for (int bar = 0; bar < BARS; bar++) {
            for (int tooth = 0; tooth < TEETH; tooth++) {
                int with = Integer.bitCount(heard & now.valley.boxesWith(bar, tooth));
                int left = Math.max(with, all - with);
                if (left < fewest) {
                    fewest = left;
                    place = 10 * bar + tooth;
                }
            }
        }
        return what == 0 ? place : fewest;
    }

    // ---- matches ----

    public int steady(int box) {
        if (!now.valley.hasBox(box)) {
            return NONE;
        }
        matching.gather(now, judge);
        matching.askAll(now);
        return matching.suitorThatKeeps(box);
    }

    public int about(int d, int what) {
        if (!isYears(d) || what < 0) {
            return NONE;
        }
        if (what >= 2 && (!now.valley.hasBox(what - 2) || now.valley.mate[what - 2] != NONE)) {
            return NONE;
        }
        matching.gather(now, judge);
        matching.matchAbout(now.valley.boxes, d);
        switch (what) {
            case 0: return matching.matched();
            case 1: return matching.differences();
            default: return matching.row[what - 2];
        }
    }

    // ---- tunes ----

    public int keep(int box, int d, int bar) {
        if (!now.valley.hasBox(box) || d < 0 || d > TEETH || bar != NONE && !isBar(bar)) {
            return NONE;
        }
        int more = tunes.keepRule(now.valley, box, d);
        return bar == NONE ? more : tunes.row[bar];
    }

    public int clash(int one, int other, int turn) {
        return areTwo(one, other) && isBar(turn) ? tunes.clashes(now.valley, one, other, turn) : NONE;
    }

    public int best(int one, int other, int what) {
        if (!areTwo(one, other) || what < 0 || what > 1) {
            return NONE;
        }
        int bestTurn = 0;
        int fewest = tunes.clashes(now.valley, one, other, 0);
        for (int turn = 1; turn < BARS; turn++) {
            int clashes = tunes.clashes(now.valley, one, other, turn);
            if (clashes < fewest) {
                fewest = clashes;
                bestTurn = turn;
            }
        }
        return what == 0 ? bestTurn : fewest;
    }

    public int filed(int one, int other, int turn, int what) {
        if (!areTwo(one, other) || !isBar(turn)) {
            return NONE;
        }
        tunes.file(now.valley, one, other, turn);
        switch (what) {
            case 0: return tunes.filedTeeth;
            case 1: return tunes.filedOfOne;
            case 2: return tunes.filedOfOther;
            default: return NONE;
        }
    }

    public int again(int box, int i) {
        if (!now.valley.hasBox(box) || i < NONE) {
            return NONE;
        }
        int found = 0;
        for (int b = 0; b < BARS; b++) {
            for (int c = b + 1; c < BARS; c++) {
                if (now.valley.notesAt(box, b) == now.valley.notesAt(box, c)) {
                    if (found == i) {
                        return 10 * b + c;
                    }
                    found++;
                }
            }
        }
        return i == NONE ? found : NONE;
    }

    // ---- years on paper ----

    public int shares(int k, int what) {
        if (k < 1 || k > 3 || what < 0 || what > 0 && !now.valley.hasBox(what - 1)) {
            return NONE;
        }
        gatherLasting();
        int boxes = now.valley.boxes;
        int rows = 1;
        for (int box = 0; box < boxes; box++) {
            rows *= k;
        }
        int most = NONE;
        int first = 0;
        for (int n = 0; n < rows; n++) {
            writeShareRow(n, k);
            int least = leastShare(k);
            if (least > most) {
                most = least;
                first = n;
            }
        }
        writeShareRow(first, k);
        return what == 0 ? most : shareRow[what - 1];
    }

    private void gatherLasting() {
        for (int box = 0; box < now.valley.boxes; box++) {
            lasting[box] = judge.lasting(now.lawInForce(), now.valley, box);
        }
    }

    /** The n-th row of sisters by BOXES: the first BOX's sister is the highest digit. */
    private void writeShareRow(int n, int k) {
        int rest = n;
        for (int box = now.valley.boxes - 1; box >= 0; box--) {
            shareRow[box] = k > 1 ? rest % k : 0;
            rest = k > 1 ? rest / k : 0;
        }
    }

    private int leastShare(int k) {
        int least = BOXES * MOST_YEARS;
        for (int sister = 0; sister < k; sister++) {
            int share = 0;
            for (int box = 0; box < now.valley.boxes; box++) {
                share += shareRow[box] == sister ? lasting[box] : 0;
            }
            least = Math.min(least, share);
        }
        return least;
    }

    public int ends(int n) {
        if (!isYears(n)) {
            return NONE;
        }
        int wedYet = 0;
        for (int box = 0; box < now.valley.boxes; box++) {
            wedYet |= now.valley.left[box] > n ? 1 << box : 0;
        }
        return wedYet;
    }

    public long stands(int box, int n) {
        if (!now.valley.hasBox(box) || !isYears(n)) {
            return NONE;
        }
        long damp = now.valley.term[DAMP];
        Arrays.fill(parts, 0L);
        parts[now.valley.spring[box]] = 1000000000000L;
        for (int year = 0; year < n; year++) {
            // From the lowest up, so that what comes down one is not lost from a second time in the year.
            for (int has = 1; has <= MOST_SPRING; has++) {
                long part = parts[has];
                parts[has] = part * (10 - damp) / 10;
                parts[has - 1] += part * damp / 10;
            }
        }
        long standing = 0;
        for (int has = 1; has <= MOST_SPRING; has++) {
            standing += parts[has];
        }
        return standing;
    }

    public int compare(int law) {
        if (law != NONE && !now.hasLaw(law)) {
            return NONE;
        }
        int together = 0;
        for (int box = 0; box < now.valley.boxes; box++) {
            together += judge.lasting(now.lawNumbered(law), now.valley, box);
        }
        return together;
    }

    public int generations(int seed, int n) {
        if (seed < 0 || seed > MOST_SEED || n < 1 || n > MOST_YEARS) {
            return refuse(BAD_NUMBER);
        }
        if (now.valley.boxes == 0) {
            return refuse(CANT_BE);
        }
        return grant(paper.live(now, seed, n));
    }

    public int drawn(int box, int what) {
        if (!paper.valley.hasBox(box)) {
            return NONE;
        }
        switch (what) {
            case 0: return paper.valley.notes(box);
            case 1: return paper.valley.spring[box];
            case 2: return paper.valley.left[box];
            default: return NONE;
        }
    }

    // ---- images, counts ----

    public int image(int k) {
        if (k < 0 || k >= IMAGES) {
            return refuse(BAD_NUMBER);
        }
        images[k].copyFrom(now);
        imageKept[k] = true;
        return grant(0);
    }

    public int back(int k) {
        if (k < 0 || k >= IMAGES) {
            return refuse(BAD_NUMBER);
        }
        if (!imageKept[k]) {
            return refuse(NO_SUCH);
        }
        now.copyFrom(images[k]);
        deeds.history.clear();
        return grant(0);
    }

    public int count(int what) {
        switch (what) {
            case 0: return now.valley.boxes;
            case 1: return now.suitors;
            case 2: return now.valley.couples();
            case 3: return now.heard;
            case 4: return now.laws;
            case 5: return deeds.history.size;
            case 6: return tapeBytes;
            case 7: return refusals[-BAD_NUMBER];
            case 8: return refusals[-NO_SUCH];
            case 9: return refusals[-CANT_BE];
            case 10: return refusals[-NO_ROOM];
            case 11: return refusals[-BAD_TEXT];
            case 12: return now.inForce;
            case 13: return now.valley.term[YEAR];
            case 14: return now.valley.term[DAMP];
            case 15: return now.valley.term[MOOD];
            default: return NONE;
        }
    }

    public int status() {
        return refusedBy;
    }

    private int refuse(int why) {
        refusedBy = why;
        if (why < 0 && why >= -REASONS) {
            refusals[-why]++;
        }
        return why;
    }

    private int grant(int answer) {
        refusedBy = 0;
        return answer;
    }

    /** For deeds, whose answers are below 0 only if they are REFUSED. */
    private int settle(int answer) {
        return answer < 0 ? refuse(answer) : grant(answer);
    }

    private boolean areTwo(int one, int other) {
        return one != other && now.valley.hasBox(one) && now.valley.hasBox(other);
    }

    private static boolean isBar(int bar) {
        return bar >= 0 && bar < BARS;
    }

    private static boolean isTooth(int tooth) {
        return tooth >= 0 && tooth < TEETH;
    }

    private static boolean isYears(int years) {
        return years >= 0 && years <= MOST_YEARS;
    }

    /** BOXES and TERMS: what deeds change, and undo() brings back whole. */
    private static final class Valley {
        int boxes = 0;
        final int[] pins = new int[BOXES * BARS];
        final int[] broken = new int[BOXES];
        final int[] spring = new int[BOXES];
        final int[] mate = new int[BOXES];
        final int[] left = new int[BOXES];
        final int[] term = new int[TERMS];

        Valley() {
            Arrays.fill(mate, NONE);
            term[DAMP] = 2;
        }

        void copyFrom(Valley other) {
            boxes = other.boxes;
            System.arraycopy(other.pins, 0, pins, 0, BOXES * BARS);
            System.arraycopy(other.broken, 0, broken, 0, BOXES);
            System.arraycopy(other.spring, 0, spring, 0, BOXES);
            System.arraycopy(other.mate, 0, mate, 0, BOXES);
            System.arraycopy(other.left, 0, left, 0, BOXES);
            System.arraycopy(other.term, 0, term, 0, TERMS);
        }

        boolean hasBox(int box) {
            return box >= 0 && box < boxes;
        }

        int notesAt(int box, int bar) {
            return pins[box * BARS + bar] & ~broken[box];
        }

        int notes(int box) {
            int notes = 0;
            for (int bar = 0; bar < BARS; bar++) {
                notes += Integer.bitCount(notesAt(box, bar));
            }
            return notes;
        }

        int barsWith(int box, int tooth) {
            int bars = 0;
            for (int bar = 0; bar < BARS; bar++) {
                bars += notesAt(box, bar) >> tooth & 1;
            }
            return bars;
        }

        int boxesWith(int bar, int tooth) {
            int with = 0;
            for (int box = 0; box < boxes; box++) {
                with |= (notesAt(box, bar) >> tooth & 1) << box;
            }
            return with;
        }

        int couples() {
            int couples = 0;
            for (int box = 0; box < boxes; box++) {
                couples += mate[box] == NONE ? 0 : 1;
            }
            return couples;
        }

        int boxOf(int suitor) {
            for (int box = 0; box < boxes; box++) {
                if (mate[box] == suitor) {
                    return box;
                }
            }
            return NONE;
        }
    }

    /** All that an IMAGE keeps. */
    private static final class Village {
        final Valley valley = new Valley();
        int suitors = 0;
        final int[] ear = new int[SUITORS];
        final int[] wants = new int[SUITORS];
        int heard = 0;
        final int[] heardBar = new int[MOST_HEARD];
        final int[] heardTooth = new int[MOST_HEARD];
        final int[] heardSounded = new int[MOST_HEARD];
        int laws = 0;
        final Text[] lawTexts = new Text[LAWS];
        final Text noLaw;
        int inForce = NONE;

        Village(Text noLaw) {
            this.noLaw = noLaw;
            for (int law = 0; law < LAWS; law++) {
                lawTexts[law] = noLaw;
            }
        }

        /** LAWS are never changed once they are read, so IMAGES may share them. */
        void copyFrom(Village other) {
            valley.copyFrom(other.valley);
            suitors = other.suitors;
            System.arraycopy(other.ear, 0, ear, 0, SUITORS);
            System.arraycopy(other.wants, 0, wants, 0, SUITORS);
            heard = other.heard;
            System.arraycopy(other.heardBar, 0, heardBar, 0, MOST_HEARD);
            System.arraycopy(other.heardTooth, 0, heardTooth, 0, MOST_HEARD);
            System.arraycopy(other.heardSounded, 0, heardSounded, 0, MOST_HEARD);
            laws = other.laws;
            for (int law = 0; law < LAWS; law++) {
                lawTexts[law] = other.lawTexts[law];
            }
            inForce = other.inForce;
        }

        boolean hasSuitor(int suitor) {
            return suitor >= 0 && suitor < suitors;
        }

        boolean hasLaw(int law) {
            return law >= 0 && law < laws;
        }

        Text lawNumbered(int law) {
            return hasLaw(law) ? lawTexts[law] : noLaw;
        }

        Text lawInForce() {
            return lawNumbered(inForce);
        }

        /** The BOXES of which all HEARD is so, as bits. */
        int boxesHeard() {
            int all = (1 << valley.boxes) - 1;
            int left = all;
            for (int i = 0; i < heard; i++) {
                int with = valley.boxesWith(heardBar[i], heardTooth[i]);
                left &= heardSounded[i] == 1 ? with : ~with;
            }
            return left;
        }
    }

    /** The latest deeds, each with the VALLEY as it was ahead of it; the oldest gives way. */
    private static final class History {
        int size = 0;
        private int first = 0;
        private final int[] kinds = new int[DEEDS_KEPT];
        private final Valley[] before = new Valley[DEEDS_KEPT];

        History() {
            for (int i = 0; i < DEEDS_KEPT; i++) {
                before[i] = new Valley();
            }
        }

        void clear() {
            size = 0;
        }

        void put(int kind, Valley valley) {
            int place = (first + size) % DEEDS_KEPT;
            if (size < DEEDS_KEPT) {
                size++;
            } else {
                first = (first + 1) % DEEDS_KEPT;
            }
            kinds[place] = kind;
            before[place].copyFrom(valley);
        }

        int takeBack(Valley valley) {
            if (size == 0) {
                return NONE;
            }
            size--;
            int place = (first + size) % DEEDS_KEPT;
            valley.copyFrom(before[place]);
            return kinds[place];
        }

        void copyFrom(History other) {
            size = other.size;
            first = other.first;
            for (int i = 0; i < DEEDS_KEPT; i++) {
                kinds[i] = other.kinds[i];
                before[i].copyFrom(other.before[i]);
            }
        }
    }

    /** A TEXT that was read: its SUMS and TESTS are items behind one another, operands ahead of what joins them. */
    private static final class Text {
        static final int LASTS = 0;
        static final int LIKES = 1;
        static final int LOSES = 2;
        static final int BARRED = 3;

        static final int PULL = 0;
        static final int SNAP = 1;
        static final int WED = 2;
        static final int PASS = 3;

        /** Places in begin for each CLAUSE: three SUMS, then the TEST; NONE where it has none. */
        static final int PLACES = 4;
        static final int TEST = 3;

        final int clauses;
        final int[] kind;
        final int[] times;
        final int[] begin;
        final int[] item;
        final int[] worth;

        Text(int clauses, Reader reader) {
            this.clauses = clauses;
            kind = Arrays.copyOf(reader.kind, clauses);
            times = Arrays.copyOf(reader.times, clauses);
            begin = Arrays.copyOf(reader.begin, clauses * PLACES);
            item = Arrays.copyOf(reader.item, reader.items);
            worth = Arrays.copyOf(reader.worth, reader.items);
        }
    }

    /** Reckons SUMS and TESTS. */
    private static final class Sums {
        static final int STOP = 0;
        static final int NUMBER = 1;
        static final int WORD = 2;
        static final int ADD = 3;
        static final int TAKE = 4;
        static final int TIMES = 5;
        static final int DIVIDE = 6;
        static final int REST = 7;
        static final int LESS = 8;
        static final int MORE = 9;
        static final int SAME = 10;
        static final int NOT = 11;
        static final int AND = 12;
        static final int OR = 13;

        static final long BOUND = 1000000000L;
        /** Beyond what any SUM can be. */
        static final int BROKEN = -2000000000;

        /** Words by number: LEFT and NOTES_OF have one for each BOX. */
        static final int BOX_WORD = 0;
        static final int SPRING_WORD = 1;
        static final int NOTES_WORD = 2;
        static final int BROKEN_WORD = 3;
        static final int SUITOR_WORD = 4;
        static final int EAR_WORD = 5;
        static final int WANTS_WORD = 6;
        static final int YEAR_WORD = 7;
        static final int MOOD_WORD = 8;
        static final int DONE_WORD = 9;
        static final int LATEST_WORD = 10;
        static final int COUPLES_WORD = 11;
        static final int LEFT_WORD = 12;
        static final int NOTES_OF_WORD = LEFT_WORD + BOXES;
        static final int WORDS = NOTES_OF_WORD + BOXES;

        private final int[] stack = new int[64];

        /** What begins there is worth (a TEST: 1, 0), or BROKEN; 1 where nothing does: without "if" it is so. */
        int reckon(Text text, int begin, int[] words) {
            if (begin < 0) {
                return 1;
            }
            int top = 0;
            for (int i = begin; i < text.item.length; i++) {
                int item = text.item[i];
                int worth = text.worth[i];
                if (item == STOP) {
                    return top == 1 ? stack[0] : BROKEN;
                }
                if (item == NUMBER || item == WORD) {
                    if (top >= stack.length || worth < 0 || item == WORD && worth >= words.length) {
                        return BROKEN;
                    }
                    stack[top] = item == NUMBER ? worth : words[worth];
                    top++;
                } else if (item >= NOT) {
                    if (top < 1) {
                        return BROKEN;
                    }
                    if (item == NOT) {
                        stack[top - 1] = 1 - stack[top - 1];
                    } else if (stack[top - 1] == (item == OR ? 1 : 0)) {
                        i = Math.max(i, worth - 1);
                    } else {
                        top--;
                    }
                } else {
                    int joined = top < 2 ? BROKEN : join(item, stack[top - 2], stack[top - 1]);
                    if (joined == BROKEN) {
                        return BROKEN;
                    }
                    top--;
                    stack[top - 1] = joined;
                }
            }
            return BROKEN;
        }

        private static int join(int item, long a, long b) {
            if ((item == DIVIDE || item == REST) && b == 0) {
                return BROKEN;
            }
            long joined;
            switch (item) {
                case ADD: joined = a + b; break;
                case TAKE: joined = a - b; break;
                case TIMES: joined = a * b; break;
                case DIVIDE: joined = a / b; break;
                case REST: joined = a % b; break;
                case LESS: joined = a < b ? 1 : 0; break;
                case MORE: joined = a > b ? 1 : 0; break;
                default: joined = a == b ? 1 : 0; break;
            }
            return joined > BOUND || joined < -BOUND ? BROKEN : (int) joined;
        }
    }

    /** Reads a TEXT: TOKENS first, then CLAUSES. Every method that answers false leaves the FAULT's TOKEN as the next. */
    private static final class Reader {
        private static final int CLAUSES = 12;
        private static final int PARTS = 50;
        private static final int BRACKETS = 8;
        private static final int MOST_NUMBER = 1000;
        private static final int MOST_TIMES = 20;
        /** A TOKEN puts one item at most, a SUM or TEST one more. */
        private static final int ITEMS = TAPE_ROOM + CLAUSES * Text.PLACES;
        private static final int BLANK = 32;

        /** TOKENS that are words are told by their place here. */
        private static final String WORDS = "if or and not times at of to lasts likes loses bars pull snap wed pass box spring notes broken suitor ear wants year mood done latest couples left";
        private static final int IF = 0;
        private static final int OR = 1;
        private static final int AND = 2;
        private static final int NOT = 3;
        private static final int TIMES = 4;
        private static final int AT = 5;
        private static final int OF = 6;
        private static final int TO = 7;
        private static final int FIRST_LAW = 8;
        private static final int FIRST_ORDER = 12;
        private static final int KINDS = 4;
        private static final int FIRST_PART = 16;
        private static final int OTHER_WORD = 90;
        private static final int NUMBER = 91;
        private static final int END = 92;
        private static final int SIGNS = 100;

        private final int[] start = new int[TAPE_ROOM + 1];
        private final int[] token = new int[TAPE_ROOM + 1];
        private final int[] number = new int[TAPE_ROOM + 1];
        private int last = 0;
        private int next = 0;
        private int parts = 0;
        private boolean ofOrders = false;

        final int[] kind = new int[CLAUSES];
        final int[] times = new int[CLAUSES];
        final int[] begin = new int[CLAUSES * Text.PLACES];
        final int[] item = new int[ITEMS];
        final int[] worth = new int[ITEMS];
        int items = 0;
        int faultAt = NONE;

        /** The TEXT; null at a FAULT. */
        Text read(int[] tape, int bytes, boolean asOrders) {
            scan(tape, bytes);
            next = 0;
            parts = 0;
            items = 0;
            ofOrders = asOrders;
            Arrays.fill(begin, NONE);
            for (int clause = 0; clause < CLAUSES; clause++) {
                if (!readClause(clause)) {
                    break;
                }
                if (token[next] == END) {
                    faultAt = NONE;
                    return new Text(clause + 1, this);
                }
                if (!isSign(';')) {
                    break;
                }
                goOn();
            }
            faultAt = start[next];
            return null;
        }

        private void scan(int[] tape, int bytes) {
            last = 0;
            for (int i = 0; i < bytes && last < TAPE_ROOM; i++) {
                if (tape[i] == BLANK) {
                    continue;
                }
                int to = endOfRow(tape, i, bytes);
                start[last] = i;
                number[last] = 0;
                if (isLetter(tape[i])) {
                    token[last] = wordAt(tape, i, to);
                } else if (isDigit(tape[i])) {
                    token[last] = NUMBER;
                    number[last] = numberAt(tape, i, to);
                } else {
                    token[last] = SIGNS + tape[i];
                }
                last++;
                i = Math.max(i, to - 1);
            }
            start[last] = bytes;
            token[last] = END;
        }

        private static int endOfRow(int[] tape, int from, int bytes) {
            boolean letters = isLetter(tape[from]);
            boolean digits = isDigit(tape[from]);
            int to = from + 1;
            while (to < bytes && (letters && isLetter(tape[to]) || digits && isDigit(tape[to]))) {
                to++;
            }
            return to;
        }

        private static boolean isLetter(int sign) {
            return sign >= 'a' && sign <= 'z';
        }

        private static boolean isDigit(int sign) {
            return sign >= '0' && sign <= '9';
        }

        /** No more than just above the greatest NUMBER, however many digits there are. */
        private static int numberAt(int[] tape, int from, int to) {
            int value = 0;
            for (int i = from; i < to; i++) {
                value = Math.min(value * 10 + tape[i] - '0', MOST_NUMBER + 1);
            }
            return value;
        }

        private static int wordAt(int[] tape, int from, int to) {
            int word = 0;
            int begins = 0;
            for (int i = 0; i <= WORDS.length(); i++) {
                if (i == WORDS.length() || WORDS.charAt(i) == ' ') {
                    if (i - begins == to - from && isSame(tape, from, begins, i)) {
                        return word;
                    }
                    word++;
                    begins = i + 1;
                }
            }
            return OTHER_WORD;
        }

        private static boolean isSame(int[] tape, int from, int begins, int ends) {
            for (int i = begins; i < ends; i++) {
                if (WORDS.charAt(i) != tape[from + i - begins]) {
                    return false;
                }
            }
            return true;
        }

        private void goOn() {
            if (next < last) {
                next++;
            }
        }

        private boolean isSign(char sign) {
            return token[next] == SIGNS + sign;
        }

        private boolean put(int what, int of) {
            if (items >= ITEMS) {
                return false;
            }
            item[items] = what;
            worth[items] = of;
            items++;
            return true;
        }

        private boolean readClause(int clause) {
            int ahead = ofOrders ? FIRST_ORDER : FIRST_LAW;
            if (token[next] < ahead || token[next] >= ahead + KINDS) {
                return false;
            }
            kind[clause] = token[next] - ahead;
            times[clause] = 1;
            goOn();
            if (!readSums(clause)) {
                return false;
            }
            if (ofOrders && token[next] == TIMES) {
                goOn();
                if (token[next] != NUMBER || number[next] < 1 || number[next] > MOST_TIMES) {
                    return false;
                }
                times[clause] = number[next];
                goOn();
            }
            if (token[next] != IF) {
                return true;
            }
            goOn();
            begin[clause * Text.PLACES + Text.TEST] = items;
            return readTest(0, 0) && put(Sums.STOP, 0);
        }

        private boolean readSums(int clause) {
            int sums = sumsOf(kind[clause]);
            for (int i = 0; i < sums; i++) {
                if (i > 0) {
                    if (token[next] != wordAhead(kind[clause], i)) {
                        return false;
                    }
                    goOn();
                }
                begin[clause * Text.PLACES + i] = items;
                if (!readSum(0, 0) || !put(Sums.STOP, 0)) {
                    return false;
                }
            }
            return true;
        }

        private int sumsOf(int kindOfClause) {
            if (!ofOrders) {
                return kindOfClause == Text.BARRED ? 0 : 1;
            }
            switch (kindOfClause) {
                case Text.PULL: return 3;
                case Text.PASS: return 0;
                default: return 2;
            }
        }

        /** The word of ORDERS ahead of the i-th SUM. */
        private static int wordAhead(int kindOfClause, int i) {
            if (kindOfClause == Text.WED) {
                return TO;
            }
            return kindOfClause == Text.PULL && i == 1 ? AT : OF;
        }

        /** At level 0 what "or" joins, at level 1 what "and" joins; each is put ahead of what it may leap over. */
        private boolean readTest(int level, int depth) {
            int leap = NONE;
            for (int n = 0; n <= TAPE_ROOM; n++) {
                boolean was = level == 0 ? readTest(1, depth) : readPlain(depth);
                if (!was) {
                    return false;
                }
                if (leap != NONE) {
                    worth[leap] = items;
                }
                if (token[next] != (level == 0 ? OR : AND)) {
                    return true;
                }
                leap = items;
                if (!put(level == 0 ? Sums.OR : Sums.AND, 0)) {
                    return false;
                }
                goOn();
            }
            return false;
        }

        private boolean readPlain(int depth) {
            boolean denied = false;
            for (int n = 0; n <= TAPE_ROOM && token[next] == NOT; n++) {
                denied = !denied;
                goOn();
            }
            if (isSign('(')) {
                if (depth >= BRACKETS) {
                    return false;
                }
                goOn();
                if (!readTest(0, depth + 1) || !isSign(')')) {
                    return false;
                }
                goOn();
            } else {
                if (!readSum(0, depth)) {
                    return false;
                }
                int comparing = comparisonHere();
                if (comparing == Sums.STOP) {
                    return false;
                }
                goOn();
                if (!readSum(0, depth) || !put(comparing, 0)) {
                    return false;
                }
            }
            return !denied || put(Sums.NOT, 0);
        }

        private int comparisonHere() {
            switch (token[next]) {
                case SIGNS + '<': return Sums.LESS;
                case SIGNS + '>': return Sums.MORE;
                case SIGNS + '=': return Sums.SAME;
                default: return Sums.STOP;
            }
        }

        /** At level 0 what "+" and "-" join, at level 1 what "*", "/" and "%" join. */
        private boolean readSum(int level, int depth) {
            int joining = Sums.STOP;
            for (int n = 0; n <= TAPE_ROOM; n++) {
                boolean was = level == 0 ? readSum(1, depth) : readPart(depth);
                if (!was || joining != Sums.STOP && !put(joining, 0)) {
                    return false;
                }
                joining = joinHere(level);
                if (joining == Sums.STOP) {
                    return true;
                }
                goOn();
            }
            return false;
        }

        private int joinHere(int level) {
            switch (token[next]) {
                case SIGNS + '+': return level == 0 ? Sums.ADD : Sums.STOP;
                case SIGNS + '-': return level == 0 ? Sums.TAKE : Sums.STOP;
                case SIGNS + '*': return level == 1 ? Sums.TIMES : Sums.STOP;
                case SIGNS + '/': return level == 1 ? Sums.DIVIDE : Sums.STOP;
                case SIGNS + '%': return level == 1 ? Sums.REST : Sums.STOP;
                default: return Sums.STOP;
            }
        }

        private boolean readPart(int depth) {
            if (isSign('[')) {
                if (depth >= BRACKETS) {
                    return false;
                }
                goOn();
                if (!readSum(0, depth + 1) || !isSign(']')) {
                    return false;
                }
                goOn();
                return true;
            }
            if (parts >= PARTS) {
                return false;
            }
            int word = token[next] - FIRST_PART;
            boolean was;
            if (token[next] == NUMBER) {
                was = number[next] <= MOST_NUMBER && put(Sums.NUMBER, number[next]);
            } else if (ofOrders && (word == Sums.LEFT_WORD || word == Sums.NOTES_WORD)) {
                goOn();
                int first = word == Sums.LEFT_WORD ? Sums.LEFT_WORD : Sums.NOTES_OF_WORD;
                was = token[next] == NUMBER && number[next] < BOXES && put(Sums.WORD, first + number[next]);
            } else {
                was = standsAlone(word) && put(Sums.WORD, word);
            }
            if (was) {
                parts++;
                goOn();
            }
            return was;
        }

        /** Whether the language has the word, and no B comes behind it. */
        private boolean standsAlone(int word) {
            if (ofOrders) {
                return word == Sums.YEAR_WORD || word >= Sums.DONE_WORD && word <= Sums.COUPLES_WORD;
            }
            return word >= Sums.BOX_WORD && word <= Sums.MOOD_WORD;
        }
    }

    /** What a LAW tells of a BOX, or of a BOX and a SUITOR. */
    private static final class Judge {
        private static final int MOST_LIKING = 99;
        private static final int MOST_LOSING = 9;

        private final Sums sums;
        private final int[] words = new int[Sums.WORDS];

        Judge(Sums sums) {
            this.sums = sums;
        }

        int lasting(Text law, Valley valley, int box) {
            lookAt(valley, box);
            int without = valley.spring[box] + words[Sums.NOTES_WORD] / 4;
            return told(law, Text.LASTS, MOST_YEARS, without);
        }

        int losing(Text law, Valley valley, int box) {
            lookAt(valley, box);
            return told(law, Text.LOSES, MOST_LOSING, 0);
        }

        int liking(Village village, int box, int suitor) {
            lookAtBoth(village, box, suitor);
            return told(village.lawInForce(), Text.LIKES, MOST_LIKING, words[Sums.EAR_WORD]);
        }

        boolean isBarred(Village village, int box, int suitor) {
            lookAtBoth(village, box, suitor);
            return told(village.lawInForce(), Text.BARRED, 1, 0) == 1;
        }

        private void lookAt(Valley valley, int box) {
            words[Sums.BOX_WORD] = box;
            words[Sums.SPRING_WORD] = valley.spring[box];
            words[Sums.NOTES_WORD] = valley.notes(box);
            words[Sums.BROKEN_WORD] = Integer.bitCount(valley.broken[box]);
            words[Sums.SUITOR_WORD] = NONE;
            words[Sums.EAR_WORD] = NONE;
            words[Sums.WANTS_WORD] = NONE;
            words[Sums.YEAR_WORD] = valley.term[YEAR];
            words[Sums.MOOD_WORD] = valley.term[MOOD];
        }

        private void lookAtBoth(Village village, int box, int suitor) {
            lookAt(village.valley, box);
            words[Sums.SUITOR_WORD] = suitor;
            words[Sums.EAR_WORD] = village.valley.barsWith(box, village.ear[suitor]);
            words[Sums.WANTS_WORD] = village.wants[suitor];
        }

        /** By the last CLAUSE of a kind that HOLDS, nearest within 0 .. most. */
        private int told(Text law, int kind, int most, int without) {
            for (int clause = law.clauses - 1; clause >= 0; clause--) {
                int places = clause * Text.PLACES;
                if (law.kind[clause] != kind || sums.reckon(law, law.begin[places + Text.TEST], words) != 1) {
                    continue;
                }
                int sum = sums.reckon(law, law.begin[places], words);
                if (sum != Sums.BROKEN) {
                    return Math.max(0, Math.min(sum, most));
                }
            }
            return without;
        }
    }

    /** What can be done to the VALLEY, by calls and by ORDERS; answers below 0 are what it is REFUSED by. */
    private static final class Deeds {
        private final Village now;
        private final Judge judge;
        private final Sums sums;
        final History history = new History();
        private final int[] words = new int[Sums.WORDS];
        private final Valley valleyAhead = new Valley();
        private final History historyAhead = new History();
        int done = 0;
        private int latest = NONE;

        Deeds(Village now, Judge judge, Sums sums) {
            this.now = now;
            this.judge = judge;
            this.sums = sums;
        }

        int pullPin(int tooth, int bar, int box) {
            Valley valley = now.valley;
            if (!isTooth(tooth) || !isBar(bar)) {
                return BAD_NUMBER;
            }
            if (!valley.hasBox(box)) {
                return NO_SUCH;
            }
            int place = box * BARS + bar;
            if ((valley.pins[place] >> tooth & 1) == 0) {
                return CANT_BE;
            }
            history.put(Text.PULL, valley);
            valley.pins[place] &= ~(1 << tooth);
            return valley.notes(box);
        }

        int snapTooth(int tooth, int box) {
            Valley valley = now.valley;
            if (!isTooth(tooth)) {
                return BAD_NUMBER;
            }
            if (!valley.hasBox(box)) {
                return NO_SUCH;
            }
            if ((valley.broken[box] >> tooth & 1) == 1) {
                return CANT_BE;
            }
            history.put(Text.SNAP, valley);
            valley.broken[box] |= 1 << tooth;
            return valley.notes(box);
        }

        int wedBox(int box, int suitor) {
            Valley valley = now.valley;
            if (!valley.hasBox(box) || !now.hasSuitor(suitor)) {
                return NO_SUCH;
            }
            if (valley.mate[box] != NONE || valley.boxOf(suitor) != NONE || judge.isBarred(now, box, suitor)) {
                return CANT_BE;
            }
            int years = judge.lasting(now.lawInForce(), valley, box);
            if (years < 1) {
                return CANT_BE;
            }
            history.put(Text.WED, valley);
            valley.mate[box] = suitor;
            valley.left[box] = years;
            return years;
        }

        int passYear() {
            Valley valley = now.valley;
            if (valley.term[YEAR] >= LAST_YEAR) {
                return CANT_BE;
            }
            history.put(Text.PASS, valley);
            liveYear(valley, now.lawInForce());
            return valley.term[YEAR];
        }

        /** How many couples are wed no more. What a BOX loses hangs on no other BOX, so one is asked behind the other. */
        int liveYear(Valley valley, Text law) {
            int ended = 0;
            for (int box = 0; box < valley.boxes; box++) {
                valley.spring[box] = Math.max(0, valley.spring[box] - judge.losing(law, valley, box));
                if (valley.mate[box] != NONE) {
                    valley.left[box]--;
                    if (valley.left[box] <= 0) {
                        valley.left[box] = 0;
                        valley.mate[box] = NONE;
                        ended++;
                    }
                }
            }
            valley.term[YEAR]++;
            return ended;
        }

        void beginOrders() {
            done = 0;
            latest = NONE;
            valleyAhead.copyFrom(now.valley);
            historyAhead.copyFrom(history);
        }

        void dropOrders() {
            now.valley.copyFrom(valleyAhead);
            history.copyFrom(historyAhead);
        }

        /** False if it can't be; a CLAUSE that is not run, as its TEST is not so, can. */
        boolean runOnce(Text text, int clause) {
            lookAround();
            int places = clause * Text.PLACES;
            if (sums.reckon(text, text.begin[places + Text.TEST], words) != 1) {
                return true;
            }
            int a = sums.reckon(text, text.begin[places], words);
            int b = sums.reckon(text, text.begin[places + 1], words);
            int c = sums.reckon(text, text.begin[places + 2], words);
            if (a == Sums.BROKEN || b == Sums.BROKEN || c == Sums.BROKEN) {
                return false;
            }
            int answer;
            switch (text.kind[clause]) {
                case Text.PULL: answer = pullPin(a, b, c); break;
                case Text.SNAP: answer = snapTooth(a, b); break;
                case Text.WED: answer = wedBox(a, b); latest = answer; break;
                default: answer = passYear(); break;
            }
            done++;
            return answer >= 0;
        }

        private void lookAround() {
            Valley valley = now.valley;
            words[Sums.YEAR_WORD] = valley.term[YEAR];
            words[Sums.DONE_WORD] = done;
            words[Sums.LATEST_WORD] = latest;
            words[Sums.COUPLES_WORD] = valley.couples();
            for (int box = 0; box < BOXES; box++) {
                boolean there = valley.hasBox(box);
                words[Sums.LEFT_WORD + box] = there ? valley.left[box] : NONE;
                words[Sums.NOTES_OF_WORD + box] = there ? valley.notes(box) : NONE;
            }
        }
    }

    /** GENERATIONS by DRAWS, on a VALLEY of paper that stays for drawn(). */
    private static final class Generations {
        private final Deeds deeds;
        final Valley valley = new Valley();
        private int state = 0;

        Generations(Deeds deeds) {
            this.deeds = deeds;
        }

        int live(Village village, int seed, int n) {
            valley.copyFrom(village.valley);
            state = seed;
            int ended = 0;
            for (int i = 0; i < n && valley.term[YEAR] < LAST_YEAR; i++) {
                int box = draw(valley.boxes);
                int bar = draw(BARS);
                int tooth = draw(TEETH);
                touch(box, bar, tooth, draw(3));
                ended += deeds.liveYear(valley, village.lawInForce());
            }
            return ended;
        }

        private int draw(int of) {
            state = (int) ((state * 1103L + 12345L) % 1000003L);
            return of > 0 ? state % of : 0;
        }

        private void touch(int box, int bar, int tooth, int how) {
            switch (how) {
                case 0: valley.pins[box * BARS + bar] &= ~(1 << tooth); break;
                case 1: valley.broken[box] |= 1 << tooth; break;
                default: valley.spring[box] = Math.max(0, valley.spring[box] - 1); break;
            }
        }
    }

    /** STEADY and ABOUT. */
    private static final class Matching {
        private static final int USES = 1 << SUITORS;
        /** A couple more outweighs all differences together. */
        private static final int COUPLE = 1000;

        /** By BOX and SUITOR how much WANTS and LASTS differ; NONE if they can't be matched. */
        private final int[] apart = new int[BOXES * SUITORS];
        private final int[] likes = new int[BOXES * SUITORS];
        private final int[] asked = new int[BOXES * SUITORS];
        private final int[] keeps = new int[SUITORS];
        /** By BOX and SUITORS used ahead of it the worth of the best match of the BOXES from it on. */
        private final int[] most = new int[(BOXES + 1) * USES];
        final int[] row = new int[BOXES];

        void gather(Village village, Judge judge) {
            Arrays.fill(apart, NONE);
            Valley valley = village.valley;
            for (int box = 0; box < valley.boxes; box++) {
                int lasts = judge.lasting(village.lawInForce(), valley, box);
                for (int suitor = 0; suitor < village.suitors; suitor++) {
                    boolean free = valley.mate[box] == NONE && valley.boxOf(suitor) == NONE;
                    if (free && !judge.isBarred(village, box, suitor)) {
                        apart[box * SUITORS + suitor] = Math.abs(village.wants[suitor] - lasts);
                        likes[box * SUITORS + suitor] = judge.liking(village, box, suitor);
                    }
                }
            }
        }

        /** Who asks first does not change whom each has in the end, so the lowest BOX that can asks. */
        void askAll(Village village) {
            Arrays.fill(asked, 0);
            Arrays.fill(keeps, NONE);
            for (int n = 0; n < BOXES * SUITORS; n++) {
                int place = nextToAsk(village.valley.boxes);
                if (place == NONE) {
                    return;
                }
                asked[place] = 1;
                int box = place / SUITORS;
                int suitor = place % SUITORS;
                int kept = keeps[suitor];
                if (kept == NONE || isLiked(suitor, box, kept)) {
                    keeps[suitor] = box;
                }
            }
        }

        private boolean isLiked(int suitor, int box, int kept) {
            int liking = likes[box * SUITORS + suitor];
            int likingKept = likes[kept * SUITORS + suitor];
            return liking > likingKept || liking == likingKept && box < kept;
        }

        /** The BOX times SUITORS and the SUITOR; NONE if none asks any more. */
        private int nextToAsk(int boxes) {
            for (int box = 0; box < boxes; box++) {
                if (suitorThatKeeps(box) != NONE) {
                    continue;
                }
                int nearest = NONE;
                for (int place = box * SUITORS; place < (box + 1) * SUITORS; place++) {
                    boolean may = apart[place] != NONE && asked[place] == 0;
                    if (may && (nearest == NONE || apart[place] < apart[nearest])) {
                        nearest = place;
                    }
                }
                if (nearest != NONE) {
                    return nearest;
                }
            }
            return NONE;
        }

        int suitorThatKeeps(int box) {
            for (int suitor = 0; suitor < SUITORS; suitor++) {
                if (keeps[suitor] == box) {
                    return suitor;
                }
            }
            return NONE;
        }

        void matchAbout(int boxes, int d) {
            Arrays.fill(most, 0);
            for (int box = boxes - 1; box >= 0; box--) {
                for (int used = 0; used < USES; used++) {
                    int best = most[(box + 1) * USES + used];
                    for (int suitor = 0; suitor < SUITORS; suitor++) {
                        best = Math.max(best, worthWith(box, suitor, used, d));
                    }
                    most[box * USES + used] = best;
                }
            }
            writeRow(boxes, d);
        }

        /** The worth from the BOX on if the SUITOR is matched to it; below 0 if he can't be. */
        private int worthWith(int box, int suitor, int used, int d) {
            int differ = apart[box * SUITORS + suitor];
            if (differ == NONE || differ > d || (used >> suitor & 1) == 1) {
                return NONE;
            }
            return COUPLE - differ + most[(box + 1) * USES + (used | 1 << suitor)];
        }

        private void writeRow(int boxes, int d) {
            int used = 0;
            for (int box = 0; box < boxes; box++) {
                row[box] = UNMATCHED;
                for (int suitor = 0; suitor < SUITORS && row[box] == UNMATCHED; suitor++) {
                    if (worthWith(box, suitor, used, d) == most[box * USES + used]) {
                        row[box] = suitor;
                    }
                }
                if (row[box] != UNMATCHED) {
                    used |= 1 << row[box];
                }
            }
        }

        int matched() {
            return (most[0] + COUPLE - 1) / COUPLE;
        }

        int differences() {
            return matched() * COUPLE - most[0];
        }
    }

    /** KEPT, CLASHES and FILED. */
    private static final class Tunes {
        /** Above what any tune can need. */
        private static final int FAR = 1000;

        /** By BAR and set the fewest PINS more from that BAR on. */
        private final int[] more = new int[BARS * SETS];
        private final int[] near = new int[SETS];
        private final int[] wider = new int[SETS];
        final int[] row = new int[BARS];
        /** By TOOTH of the one the TEETH of the other one that it CLASHES with. */
        private final int[] against = new int[TEETH];
        int filedTeeth = 0;
        int filedOfOne = 0;
        int filedOfOther = 0;

        /** The fewest PINS more; row has the first such sets. */
        int keepRule(Valley valley, int box, int d) {
            int all = 0;
            int widest = 0;
            for (int bar = 0; bar < BARS; bar++) {
                row[bar] = valley.pins[box * BARS + bar];
                all |= row[bar];
                widest = Math.max(widest, bar > 0 ? Integer.bitCount(row[bar] ^ row[bar - 1]) : 0);
            }
            // Weighing all sets is dear, and the tune as it is is the only one without PINS more.
            if (widest <= d) {
                return 0;
            }
            Arrays.fill(near, 0);
            for (int bar = BARS - 1; bar >= 0; bar--) {
                weighSets(bar, valley.pins[box * BARS + bar], all);
                System.arraycopy(more, bar * SETS, near, 0, SETS);
                for (int n = 0; n < d && bar > 0; n++) {
                    widen(all);
                }
            }
            for (int bar = 0; bar < BARS; bar++) {
                row[bar] = cheapest(bar, d);
            }
            return more[row[0]];
        }

        /** A TOOTH that no BAR has only makes a tune dearer, so sets with one are left out. */
        private void weighSets(int bar, int pins, int all) {
            for (int set = 0; set < SETS; set++) {
                boolean may = (set & pins) == pins && (set & ~all) == 0;
                more[bar * SETS + set] = may ? Integer.bitCount(set & ~pins) + near[set] : FAR;
            }
        }

        /** Near becomes the least of itself and of all sets that differ in one TOOTH more. */
        private void widen(int all) {
            for (int set = 0; set < SETS; set++) {
                if ((set & ~all) != 0) {
                    continue;
                }
                int least = near[set];
                for (int tooth = 0; tooth < TEETH; tooth++) {
                    least = Math.min(least, near[set ^ 1 << tooth]);
                }
                wider[set] = least;
            }
            for (int set = 0; set < SETS; set++) {
                near[set] = (set & ~all) == 0 ? wider[set] : FAR;
            }
        }

        private int cheapest(int bar, int d) {
            int found = 0;
            int least = FAR;
            for (int set = 0; set < SETS; set++) {
                boolean may = bar == 0 || Integer.bitCount(set ^ row[bar - 1]) <= d;
                if (may && more[bar * SETS + set] < least) {
                    least = more[bar * SETS + set];
                    found = set;
                }
            }
            return found;
        }

        int clashes(Valley valley, int one, int other, int turn) {
            int clashes = 0;
            for (int bar = 0; bar < BARS; bar++) {
                int ofOne = valley.notesAt(one, bar);
                int ofOther = valley.notesAt(other, (bar + turn) % BARS);
                clashes += Integer.bitCount(ofOne & ofOther << 1) + Integer.bitCount(ofOne & ofOther >> 1);
            }
            return clashes;
        }

        /** With the one's TEETH filed, the other's that must be are known, so the one's sets alone are gone through. */
        void file(Valley valley, int one, int other, int turn) {
            gatherClashes(valley, one, other, turn);
            filedTeeth = 2 * TEETH + 1;
            for (int set = 0; set < SETS; set++) {
                int must = 0;
                for (int tooth = 0; tooth < TEETH; tooth++) {
                    must |= (set >> tooth & 1) == 0 ? against[tooth] : 0;
                }
                int teeth = Integer.bitCount(set) + Integer.bitCount(must);
                if (teeth < filedTeeth) {
                    filedTeeth = teeth;
                    filedOfOne = set;
                    filedOfOther = must;
                }
            }
        }

        private void gatherClashes(Valley valley, int one, int other, int turn) {
            Arrays.fill(against, 0);
            for (int bar = 0; bar < BARS; bar++) {
                int ofOne = valley.notesAt(one, bar);
                int ofOther = valley.notesAt(other, (bar + turn) % BARS);
                for (int tooth = 0; tooth < TEETH; tooth++) {
                    int beside = 1 << tooth << 1 | 1 << tooth >> 1;
                    against[tooth] |= (ofOne >> tooth & 1) == 1 ? ofOther & beside : 0;
                }
            }
        }
    }
}
