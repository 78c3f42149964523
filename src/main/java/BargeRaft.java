import java.util.Arrays;
import java.util.NoSuchElementException;

/** Barges pushed up a river in one raft and down again; the promises stand in ../shared/DOC.md. */
public final class BargeRaft {
    public static final int NONE = -1;

    private static final int NOT_SO = -2;
    private static final int DAY = 1440;

    private static final int TAPE_MOST = 940;
    private static final int RIVER_MOST = 900;
    private static final int PLAN_MOST = 600;
    private static final int QUAYS_MOST = 8;
    private static final int LEGS_MOST = 7;
    private static final int BARGES_MOST = 9;
    private static final int ROWS_MOST = 6;
    private static final int COLUMNS_MOST = 4;
    private static final int CELLS_MOST = 24;
    private static final int ACTS_MOST = 60;
    private static final int PLACES = 2;

    private static final int FIRST_BARGES = 6;
    private static final int FIRST_CELLS = 9;
    private static final int BEST_BARGES = 4;
    private static final int BEST_CELLS = 6;
    // Four barges or fewer in six cells: 1 + 4 * 6 + 6 * 30 + 4 * 120 + 360 rafts.
    private static final int BEST_RAFTS = 1045;
    // A code has three bits for each of four barges: 0, or one more than the barge's cell.
    private static final int BEST_CODES = 4096;
    private static final int CODE_BITS = 3;
    // Above every minute that can come, and low enough that sums of two stay ints.
    private static final int FAR = 500000000;
    // A shortest row of acts at one stop meets no raft twice, so it is far below this.
    private static final int SWEEPS_MOST = 1000000;

    private static final int QUAY_PARTS = 3;
    private static final int SIDE = 0;
    private static final int OPENS = 1;
    private static final int CLOSES = 2;

    private static final int LEG_PARTS = 7;
    private static final int BROAD = 0;
    private static final int LONG = 1;
    private static final int MINUTES = 2;
    private static final int DEEP = 3;
    private static final int EDGE = 4;
    private static final int LOCK_TAKES = 5;
    private static final int LOCK_EACH = 6;

    private static final int BARGE_PARTS = 4;
    private static final int FROM = 0;
    private static final int TO = 1;
    private static final int DRAFT = 2;
    private static final int APART_BITS = 3;

    private static final int ACT_PARTS = 4;
    private static final int DO_OFF = 0;
    private static final int DO_ON = 1;
    private static final int DO_SHIFT = 2;
    private static final int DO_GO = 3;

    private static final int WAYS = 3;
    private static final int WAY_LEFT = 0;
    private static final int WAY_RIGHT = 1;
    private static final int WAY_BACK = 2;

    // The words that are no names, numbered as they stand here; each ends with a blank.
    private static final String WORDS =
        "quay leg barge raft knot hold turn left right both open lock apart off on shift go ";
    private static final int WORDS_MANY = 17;
    private static final int WORD_QUAY = 0;
    private static final int WORD_LEG = 1;
    private static final int WORD_BARGE = 2;
    private static final int WORD_RAFT = 3;
    private static final int WORD_KNOT = 4;
    private static final int WORD_HOLD = 5;
    private static final int WORD_TURN = 6;
    private static final int WORD_LEFT = 7;
    private static final int WORD_BOTH = 9;
    private static final int WORD_OPEN = 10;
    private static final int WORD_LOCK = 11;
    private static final int WORD_APART = 12;
    private static final int WORD_OFF = 13;
    private static final int WORD_GO = 16;

    private static final int KIND_END = 0;
    private static final int KIND_WORD = 1;
    private static final int KIND_NAME = 2;
    private static final int KIND_NUMBER = 3;
    private static final int KIND_SEMICOLON = 4;
    private static final int KIND_WRONG = 5;

    private static final int FAULT_TOKEN = 1;
    private static final int FAULT_NUMBER = 2;
    private static final int FAULT_NAME = 3;
    private static final int FAULT_MANY = 4;

    private final Tape tape;
    private final State now;
    private final State[] kept;
    private final Grid grid;
    private final Texts texts;
    private final Rules rules;
    private final Taking told;
    private final Judge judgement;
    private final Seating seating;
    private final Search search;
    private int passedKnots;
    private int hiredMinutes;

    public BargeRaft() {
        tape = new Tape();
        now = new State();
        kept = new State[PLACES];
        for (int k = 0; k < PLACES; k++) {
            kept[k] = new State();
        }
        grid = new Grid();
        grid.shape(now.river.broad, now.river.rows);
        texts = new Texts(tape);
        rules = new Rules(now, grid);
        told = new Taking(now.river, grid);
        judgement = new Judge(now, grid, rules);
        seating = new Seating(now.river, grid, rules);
        search = new Search(now.river, grid, rules);
        passedKnots = 0;
        hiredMinutes = NONE;
    }

    public int feed(int a, int b, int c, int d, int e) {
        if (tape.length + 20 > TAPE_MOST) {
            return NONE;
        }
        tape.addFour(a);
        tape.addFour(b);
        tape.addFour(c);
        tape.addFour(d);
        tape.addFour(e);
        return tape.length;
    }

    public boolean end(int n) {
        if (n < 0 || n > tape.length) {
            return false;
        }
        tape.length = n;
        return true;
    }

    public int river() {
        boolean good = texts.readRiver();
        tape.length = 0;
        if (!good) {
            return -1 - tape.faultPlace;
        }
        now.begin(texts.river);
        grid.shape(now.river.broad, now.river.rows);
        return texts.lines;
    }

    public int fault() {
        return tape.faultKind;
    }

    public int quay(int q, int what) throws NoSuchElementException {
        if (!now.river.hasQuay(q) || what < 0 || what >= QUAY_PARTS) {
            throw new NoSuchElementException("no such quay, or nothing of that kind is told of it");
        }
        return now.river.quayPart(q, what);
    }

    public int leg(int k, int what) throws NoSuchElementException {
        if (!now.river.hasLeg(k) || what < 0 || what >= LEG_PARTS) {
            throw new NoSuchElementException("no such leg, or nothing of that kind is told of it");
        }
        return now.river.legPart(k, what);
    }

    public int barge(int b, int what) throws NoSuchElementException {
        if (!now.river.hasBarge(b) || what < 0 || what > BARGE_PARTS + 1) {
            throw new NoSuchElementException("no such barge, or nothing of that kind is told of it");
        }
        if (what < BARGE_PARTS) {
            return now.river.bargePart(b, what);
        }
        return what == BARGE_PARTS ? now.river.onStop(b) : now.river.offStop(b);
    }

    public int lay() {
        int many = layable();
        if (many != NONE) {
            for (int k = 0; k < grid.cells; k++) {
                now.cells[k] = tape.bytes[k] - 1;
            }
        }
        tape.length = 0;
        return many;
    }

    /** How many BARGES the tape lays, NONE if it tells no RAFT. */
    private int layable() {
        if (tape.length != grid.cells) {
            return NONE;
        }
        int seen = 0;
        for (int k = 0; k < grid.cells; k++) {
            int b = tape.bytes[k] - 1;
            if (b == NONE) {
                continue;
            }
            if (!now.river.hasBarge(b) || (seen >> b & 1) == 1) {
                return NONE;
            }
            seen |= 1 << b;
        }
        return Integer.bitCount(seen);
    }

    public int cell(int k) {
        return grid.hasCell(k) ? now.cells[k] : NONE;
    }

    public int knots() {
        return grid.knotsAmong(grid.bitsOf(now.cells));
    }

    public int taking(int k, int q) {
        if (!grid.hasCell(k) || now.cells[k] == NONE || !now.river.hasQuay(q)) {
            return NONE;
        }
        told.weigh(grid.bitsOf(now.cells), k, now.river.quayPart(q, SIDE));
        return told.minutes;
    }

    public int takenBy(int what) {
        switch (what) {
            case 0:
                return told.way;
            case 1:
                return told.untied;
            case 2:
                return told.tied;
            case 3:
                return told.blockers;
            default:
                return NONE;
        }
    }

    public int sound() {
        return rules.holdsTogether(now.cells) ? 1 : 0;
    }

    public int fits(int k) {
        if (!now.river.hasLeg(k)) {
            return NONE;
        }
        return rules.hasRoom(now.cells, k, 0) ? 1 : 0;
    }

    public int passes(int k) {
        if (!now.river.hasLeg(k)) {
            return NONE;
        }
        int takes = now.river.legPart(k, LOCK_TAKES);
        if (takes == 0) {
            return 0;
        }
        if (!rules.goThrough(grid.bitsOf(now.cells), takes)) {
            return NOT_SO;
        }
        passedKnots = rules.lockKnots;
        return rules.lockTimes;
    }

    public int passedBy() {
        return passedKnots;
    }

    public int deep(int b, int k) {
        if (!now.river.hasBarge(b) || !now.river.hasLeg(k)) {
            return NONE;
        }
        int draft = now.river.bargePart(b, DRAFT) + now.fallen;
        if (draft > now.river.legPart(k, DEEP)) {
            return 0;
        }
        return draft > now.river.legPart(k, EDGE) ? 1 : 2;
    }

    public boolean water(int n) {
        if (n < 0 || n > 99) {
            return false;
        }
        now.fallen = n;
        return true;
    }

    public int plan() {
        boolean good = texts.readPlan(now.river);
        tape.length = 0;
        if (!good) {
            return -1 - tape.faultPlace;
        }
        now.takePlan(texts.acts, texts.actCount);
        return now.actCount;
    }

    public int act(int i, int what) throws NoSuchElementException {
        if (i < 0 || i >= now.actCount || what < 0 || what >= ACT_PARTS) {
            throw new NoSuchElementException("no such act, or nothing of that kind is told of it");
        }
        return now.actPart(i, what);
    }

    public int judge(int minute) {
        if (now.river.quayCount == 0 || !isMinute(minute)) {
            return NOT_SO;
        }
        return judgement.carryOut(minute);
    }

    public int judged(int what) {
        return judgement.tell(what);
    }

    public int judgedAt(int k) {
        return k >= 0 && k < judgement.cellCount ? judgement.cells[k] : NONE;
    }

    public int first() {
        int many = tape.length;
        boolean good = seatable();
        for (int i = 0; good && i < many; i++) {
            seating.order[i] = tape.bytes[i];
        }
        tape.length = 0;
        if (!good) {
            return NONE;
        }
        if (!seating.seatAll(many)) {
            return 0;
        }
        System.arraycopy(seating.cells, 0, now.cells, 0, CELLS_MOST);
        return 1;
    }

    /** Whether the tape's BARGES are some that a FIRST RAFT may be asked of. */
    private boolean seatable() {
        if (tape.length < 1 || tape.length > FIRST_BARGES || grid.cells > FIRST_CELLS) {
            return false;
        }
        int seen = 0;
        for (int i = 0; i < tape.length; i++) {
            int b = tape.bytes[i];
            if (!now.river.hasBarge(b) || now.river.bargePart(b, FROM) != 0 || (seen >> b & 1) == 1) {
                return false;
            }
            seen |= 1 << b;
        }
        return true;
    }

    public int best(int minute) {
        if (!searchable(minute, 0)) {
            return NOT_SO;
        }
        search.prepare(NONE, NONE);
        return search.leastMinutes(minute, NONE);
    }

    public int hired(int minute) {
        if (!searchable(minute, 0) || now.river.legCount == 0) {
            return NOT_SO;
        }
        search.prepare(NONE, NONE);
        int leg = NONE;
        int least = FAR;
        for (int k = 0; k < now.river.legCount; k++) {
            int minutes = search.leastMinutes(minute, k);
            if (minutes != NONE && minutes < least) {
                least = minutes;
                leg = k;
            }
        }
        if (leg != NONE) {
            hiredMinutes = least;
        }
        return leg;
    }

    public int hiredBy() {
        return hiredMinutes;
    }

    public int vain(int b, int minute) {
        if (!searchable(minute, 0) || !now.river.hasBarge(b) || !now.river.goesUp(b)) {
            return NOT_SO;
        }
        search.prepare(NONE, b);
        return search.leastMinutes(minute, NONE);
    }

    public int without(int b, int minute) {
        if (!searchable(minute, 1) || !now.river.hasBarge(b)) {
            return NOT_SO;
        }
        search.prepare(b, NONE);
        return search.leastMinutes(minute, NONE);
    }

    /** Whether BEST may be asked for, if so many BARGES are left out. */
    private boolean searchable(int minute, int leftOut) {
        return isMinute(minute) && now.river.quayCount > 0
            && now.river.bargeCount - leftOut <= BEST_BARGES && grid.cells <= BEST_CELLS;
    }

    private static boolean isMinute(int minute) {
        return minute >= 0 && minute < DAY;
    }

    public boolean image(int k) {
        if (k < 0 || k >= PLACES) {
            return false;
        }
        kept[k].copyFrom(now);
        kept[k].filled = true;
        return true;
    }

    public boolean restore(int k) {
        if (k < 0 || k >= PLACES || !kept[k].filled) {
            return false;
        }
        now.copyFrom(kept[k]);
        grid.shape(now.river.broad, now.river.rows);
        return true;
    }

    public int count(int what) {
        switch (what) {
            case 0:
                return now.river.quayCount;
            case 1:
                return now.river.legCount;
            case 2:
                return now.river.bargeCount;
            case 3:
                return now.river.broad;
            case 4:
                return now.river.rows;
            case 5:
                return now.actCount;
            case 6:
                return now.fallen;
            case 7:
                return tape.length;
            case 8:
                return now.river.stopCount();
            default:
                return NONE;
        }
    }

    /** The tape, and the TOKENS of the text on it. */
    private static final class Tape {
        final int[] bytes = new int[TAPE_MOST];
        int length;

        private final int[] wordCodes = new int[WORDS_MANY];
        private int limit;
        private int behind;
        boolean tooLong;
        int place;
        int kind;
        int value;
        int faultKind;
        int faultPlace;

        Tape() {
            int word = 0;
            int code = 0;
            for (int i = 0; i < WORDS.length() && word < WORDS_MANY; i++) {
                if (WORDS.charAt(i) == ' ') {
                    wordCodes[word] = code;
                    word++;
                    code = 0;
                } else {
                    code = withLetter(code, WORDS.charAt(i));
                }
            }
        }

        /** Six letters of five bits each are one int, so that words are compared as numbers. */
        private static int withLetter(int code, int letter) {
            return code * 32 + (letter - 'a' + 1);
        }

        void addFour(int number) {
            for (int shift = 24; shift >= 0 && length < TAPE_MOST; shift -= 8) {
                bytes[length] = number >> shift & 255;
                length++;
            }
        }

        /** The first TOKEN of a text of so many bytes at most. */
        void startText(int most) {
            tooLong = length > most;
            limit = Math.min(length, most);
            behind = 0;
            faultKind = 0;
            faultPlace = 0;
            advance();
        }

        void advance() {
            int at = behind;
            while (at < limit && (bytes[at] == ' ' || bytes[at] == '\n')) {
                at++;
            }
            if (at >= limit) {
                // The last TOKEN may have gone on past the limit, the end's place is the limit.
                place = limit;
                kind = KIND_END;
                return;
            }
            place = at;
            if (bytes[at] == ';') {
                kind = KIND_SEMICOLON;
                behind = at + 1;
                return;
            }
            readRun(at);
        }

        /** A run of small letters and digits, as long as it goes on, past the limit too. */
        private void readRun(int from) {
            int letters = 0;
            int digits = 0;
            int code = 0;
            int number = 0;
            int at = from;
            while (at < length && (isLetter(bytes[at]) || isDigit(bytes[at]))) {
                if (isLetter(bytes[at])) {
                    letters++;
                    code = withLetter(code, bytes[at]);
                } else {
                    digits++;
                    number = number * 10 + (bytes[at] - '0');
                }
                at++;
            }
            behind = at;
            kind = KIND_WRONG;
            if (digits == 0 && letters >= 1 && letters <= 6) {
                value = wordNumber(code);
                kind = value == NONE ? KIND_NAME : KIND_WORD;
                value = value == NONE ? code : value;
            } else if (letters == 0 && digits >= 1 && digits <= 4) {
                kind = KIND_NUMBER;
                value = number;
            }
        }

        private static boolean isLetter(int sign) {
            return sign >= 'a' && sign <= 'z';
        }

        private static boolean isDigit(int sign) {
            return sign >= '0' && sign <= '9';
        }

        private int wordNumber(int code) {
            for (int word = 0; word < WORDS_MANY; word++) {
                if (wordCodes[word] == code) {
                    return word;
                }
            }
            return NONE;
        }

        /** A FAULT of that kind at the TOKEN that is next; always false. */
        boolean refuse(int fault) {
            faultKind = fault;
            faultPlace = place;
            return false;
        }

        boolean isWord(int word) {
            return kind == KIND_WORD && value == word;
        }

        boolean wantKind(int wanted) {
            return kind == wanted || refuse(FAULT_TOKEN);
        }

        /** Goes on behind a NUMBER from least to most, which is put into the row there. */
        boolean takeNumber(int least, int most, int[] row, int at) {
            if (!wantKind(KIND_NUMBER)) {
                return false;
            }
            if (value < least || value > most || at < 0 || at >= row.length) {
                return refuse(FAULT_NUMBER);
            }
            row[at] = value;
            advance();
            return true;
        }

        boolean takeSemicolon() {
            if (!wantKind(KIND_SEMICOLON)) {
                return false;
            }
            advance();
            return true;
        }
    }

    /** A RIVER: what its LINES tell. */
    private static final class River {
        int quayCount;
        int legCount;
        int bargeCount;
        int broad;
        int rows;
        int knot;
        int hold;
        int turn;
        final int[] quays = new int[QUAYS_MOST * QUAY_PARTS];
        final int[] legs = new int[LEGS_MOST * LEG_PARTS];
        final int[] barges = new int[BARGES_MOST * BARGE_PARTS];
        final int[] quayNames = new int[QUAYS_MOST];
        final int[] bargeNames = new int[BARGES_MOST];

        River() {
            empty();
        }

        void empty() {
            quayCount = 0;
            legCount = 0;
            bargeCount = 0;
            broad = 3;
            rows = 3;
            knot = 5;
            hold = 3;
            turn = 10;
        }

        void copyFrom(River other) {
            quayCount = other.quayCount;
            legCount = other.legCount;
            bargeCount = other.bargeCount;
            broad = other.broad;
            rows = other.rows;
            knot = other.knot;
            hold = other.hold;
            turn = other.turn;
            System.arraycopy(other.quays, 0, quays, 0, quays.length);
            System.arraycopy(other.legs, 0, legs, 0, legs.length);
            System.arraycopy(other.barges, 0, barges, 0, barges.length);
            System.arraycopy(other.quayNames, 0, quayNames, 0, QUAYS_MOST);
            System.arraycopy(other.bargeNames, 0, bargeNames, 0, BARGES_MOST);
        }

        boolean hasQuay(int q) {
            return q >= 0 && q < quayCount;
        }

        boolean hasLeg(int k) {
            return k >= 0 && k < legCount;
        }

        boolean hasBarge(int b) {
            return b >= 0 && b < bargeCount;
        }

        int quayPart(int q, int what) {
            return quays[q * QUAY_PARTS + what];
        }

        int legPart(int k, int what) {
            return legs[k * LEG_PARTS + what];
        }

        int bargePart(int b, int what) {
            return barges[b * BARGE_PARTS + what];
        }

        int quayNamed(int name) {
            for (int q = 0; q < quayCount; q++) {
                if (quayNames[q] == name) {
                    return q;
                }
            }
            return NONE;
        }

        int bargeNamed(int name) {
            for (int b = 0; b < bargeCount; b++) {
                if (bargeNames[b] == name) {
                    return b;
                }
            }
            return NONE;
        }

        /** Whether two BARGES are apart; an empty CELL is apart from nobody. */
        boolean areApart(int a, int b) {
            return a != NONE && b != NONE && (barges[a * BARGE_PARTS + APART_BITS] >> b & 1) == 1;
        }

        int stopCount() {
            return quayCount == 0 ? 0 : 2 * quayCount - 1;
        }

        private int downStop(int q) {
            return 2 * (quayCount - 1) - q;
        }

        int quayOf(int stop) {
            return stop < quayCount ? stop : downStop(stop);
        }

        /** The LEG by which one goes on from a STOP that is not the last one. */
        int legBehind(int stop) {
            return stop < quayCount - 1 ? stop : downStop(stop) - 1;
        }

        boolean goesUp(int b) {
            return bargePart(b, FROM) < bargePart(b, TO);
        }

        int onStop(int b) {
            return goesUp(b) ? bargePart(b, FROM) : downStop(bargePart(b, FROM));
        }

        int offStop(int b) {
            return goesUp(b) ? bargePart(b, TO) : vainStop(b);
        }

        /** Where a BARGE comes off, if it does so on the way down in any case. */
        int vainStop(int b) {
            return downStop(bargePart(b, TO));
        }

        /** The first minute, from that one on, in which the QUAY is open. */
        int openFrom(int q, int minute) {
            int rest = minute % DAY;
            int opens = quayPart(q, OPENS);
            if (rest < opens) {
                return minute + opens - rest;
            }
            return rest < quayPart(q, CLOSES) ? minute : minute + DAY - rest + opens;
        }
    }

    /** What an image keeps: RIVER, RAFT, WATER and PLAN. */
    private static final class State {
        final River river = new River();
        final int[] cells = new int[CELLS_MOST];
        final int[] acts = new int[ACTS_MOST * ACT_PARTS];
        int actCount;
        int fallen;
        boolean filled;

        State() {
            Arrays.fill(cells, NONE);
        }

        void begin(River told) {
            river.copyFrom(told);
            Arrays.fill(cells, NONE);
            actCount = 0;
            fallen = 0;
        }

        void takePlan(int[] told, int many) {
            System.arraycopy(told, 0, acts, 0, acts.length);
            actCount = many;
        }

        int actPart(int i, int what) {
            return acts[i * ACT_PARTS + what];
        }

        void copyFrom(State other) {
            river.copyFrom(other.river);
            System.arraycopy(other.cells, 0, cells, 0, CELLS_MOST);
            takePlan(other.acts, other.actCount);
            fallen = other.fallen;
        }
    }

    /** The shape of the GRID; sets of CELLS are ints whose bit k stands for CELL k. */
    private static final class Grid {
        int broad;
        int rows;
        int cells;
        private int frontRow;
        private int firstColumn;
        private int lastColumn;
        private final int[] ways = new int[WAYS * CELLS_MOST];

        void shape(int columns, int lines) {
            broad = columns;
            rows = lines;
            cells = Math.min(columns * lines, CELLS_MOST);
            frontRow = (1 << broad) - 1;
            firstColumn = 0;
            lastColumn = 0;
            for (int r = 0; r < rows; r++) {
                firstColumn |= 1 << r * broad;
                lastColumn |= 1 << r * broad + broad - 1;
            }
            for (int r = 0; r < rows; r++) {
                for (int c = 0; c < broad; c++) {
                    markWays(r, c);
                }
            }
        }

        private void markWays(int row, int column) {
            int cell = row * broad + column;
            if (cell < 0 || cell >= CELLS_MOST) {
                return;
            }
            int before = (1 << column) - 1;
            int upTo = (1 << column + 1) - 1;
            ways[WAY_LEFT * CELLS_MOST + cell] = before << row * broad;
            ways[WAY_RIGHT * CELLS_MOST + cell] = (frontRow & ~upTo) << row * broad;
            ways[WAY_BACK * CELLS_MOST + cell] = firstColumn << column & -1 << (row + 1) * broad;
        }

        boolean hasCell(int k) {
            return k >= 0 && k < cells;
        }

        /** The CELLS that lie on a WAY of a CELL. */
        int wayBits(int way, int cell) {
            return ways[way * CELLS_MOST + cell];
        }

        /** What lies in one row, as bits of the front row. */
        int inRow(int bits, int row) {
            return bits >> row * broad & frontRow;
        }

        int bitsOf(int[] raft) {
            int bits = 0;
            for (int k = 0; k < cells; k++) {
                if (raft[k] != NONE) {
                    bits |= 1 << k;
                }
            }
            return bits;
        }

        int knotsAmong(int bits) {
            int across = bits & bits >> 1 & ~lastColumn;
            int along = bits & bits >> broad;
            return Integer.bitCount(across) + Integer.bitCount(along);
        }

        private int beside(int bits) {
            int across = (bits & ~lastColumn) << 1 | (bits & ~firstColumn) >> 1;
            return across | bits << broad | bits >> broad;
        }

        boolean hangsTogether(int bits) {
            int reached = bits & -bits;
            for (int step = 0; step < CELLS_MOST; step++) {
                int more = (reached | beside(reached)) & bits;
                if (more == reached) {
                    break;
                }
                reached = more;
            }
            return reached == bits;
        }
    }

    /** What it needs to TAKE a BARGE. */
    private static final class Taking {
        private final River river;
        private final Grid grid;
        int minutes = NONE;
        int way = NONE;
        int untied = NONE;
        int tied = NONE;
        int blockers = NONE;

        Taking(River river, Grid grid) {
            this.river = river;
            this.grid = grid;
        }

        /** To TAKE what is in a CELL, at a QUAY of that SIDE, by the WAY that needs the least. */
        void weigh(int bits, int cell, int side) {
            minutes = FAR;
            for (int by = 0; by < WAYS; by++) {
                // SIDE 1 has the left way, 2 the right one, 3 both: its bits are these ways.
                if (by == WAY_BACK || (side >> by & 1) == 1) {
                    weighWay(bits, cell, by);
                }
            }
        }

        private void weighWay(int bits, int cell, int by) {
            int others = bits & ~(1 << cell);
            int held = bits & grid.wayBits(by, cell);
            int untouched = grid.knotsAmong(others & ~held);
            int open = grid.knotsAmong(bits) - untouched;
            int again = grid.knotsAmong(others) - untouched;
            int many = Integer.bitCount(held);
            int sum = river.knot * (open + again) + river.hold * many + (by == WAY_BACK ? river.turn : 0);
            if (sum < minutes) {
                minutes = sum;
                way = by;
                untied = open;
                tied = again;
                blockers = many;
            }
        }
    }

    /** SOUND, FITS and PASSES, of any RAFT in CELLS. */
    private static final class Rules {
        // A division of rows is worth its times, and beyond that its KNOTS, of which there are 20 at most.
        private static final int TIME = 100;

        private final State state;
        private final River river;
        private final Grid grid;
        private final int[] worth = new int[ROWS_MOST + 1];
        private int firstColumn;
        private int lastColumn;
        private int firstRow;
        private int lastRow;
        int lockTimes;
        int lockKnots;

        Rules(State state, Grid grid) {
            this.state = state;
            this.river = state.river;
            this.grid = grid;
        }

        boolean holdsTogether(int[] cells) {
            return grid.hangsTogether(grid.bitsOf(cells)) && keepsApart(cells);
        }

        /** Whether no two that are apart share a side. */
        boolean keepsApart(int[] cells) {
            for (int r = 0; r < grid.rows; r++) {
                for (int c = 0; c < grid.broad; c++) {
                    int k = r * grid.broad + c;
                    if (c + 1 < grid.broad && river.areApart(cells[k], cells[k + 1])) {
                        return false;
                    }
                    if (r + 1 < grid.rows && river.areApart(cells[k], cells[k + grid.broad])) {
                        return false;
                    }
                }
            }
            return true;
        }

        /** Whether it FITS a LEG that is so many more broad and long than told. */
        boolean hasRoom(int[] cells, int leg, int more) {
            measure(cells);
            if (firstRow > lastRow) {
                return true;
            }
            int broad = river.legPart(leg, BROAD) + more;
            int columns = lastColumn - firstColumn + 1;
            if (columns > broad || lastRow - firstRow + 1 > river.legPart(leg, LONG) + more) {
                return false;
            }
            int deep = river.legPart(leg, DEEP) - state.fallen;
            int edge = river.legPart(leg, EDGE) - state.fallen;
            for (int r = firstRow; r <= lastRow; r++) {
                for (int c = firstColumn; c <= lastColumn; c++) {
                    boolean outer = columns == broad && (c == firstColumn || c == lastColumn);
                    int most = outer ? Math.min(deep, edge) : deep;
                    int b = cells[r * grid.broad + c];
                    if (b != NONE && river.bargePart(b, DRAFT) > most) {
                        return false;
                    }
                }
            }
            return true;
        }

        /** The rows and columns from the first to the last that has a BARGE; none of an empty RAFT. */
        private void measure(int[] cells) {
            firstColumn = COLUMNS_MOST;
            lastColumn = NONE;
            firstRow = ROWS_MOST;
            lastRow = NONE;
            for (int r = 0; r < grid.rows; r++) {
                for (int c = 0; c < grid.broad; c++) {
                    if (cells[r * grid.broad + c] != NONE) {
                        firstRow = Math.min(firstRow, r);
                        lastRow = r;
                        firstColumn = Math.min(firstColumn, c);
                        lastColumn = Math.max(lastColumn, c);
                    }
                }
            }
        }

        /** Whether it PASSES a lock that takes so many; then lockTimes and lockKnots tell how. */
        boolean goThrough(int bits, int takes) {
            worth[0] = 0;
            for (int end = 1; end <= grid.rows; end++) {
                worth[end] = FAR;
                int many = 0;
                for (int from = end - 1; from >= 0; from--) {
                    int row = grid.inRow(bits, from);
                    many += Integer.bitCount(row);
                    if (many > takes) {
                        break;
                    }
                    int cut = from == 0 ? 0 : Integer.bitCount(row & grid.inRow(bits, from - 1));
                    worth[end] = Math.min(worth[end], worth[from] + TIME + cut);
                }
            }
            int all = worth[grid.rows];
            if (all >= FAR) {
                return false;
            }
            lockTimes = all / TIME;
            lockKnots = all % TIME;
            return true;
        }

        /** The minutes to go by a LEG and through its lock; NONE, if it does not PASS. */
        int goMinutes(int bits, int leg) {
            int minutes = river.legPart(leg, MINUTES);
            int takes = river.legPart(leg, LOCK_TAKES);
            if (takes == 0) {
                return minutes;
            }
            if (!goThrough(bits, takes)) {
                return NONE;
            }
            return minutes + lockTimes * river.legPart(leg, LOCK_EACH) + 2 * river.knot * lockKnots;
        }
    }

    /** Reads a RIVER or a PLAN from the tape; what was read stands only if there is no FAULT. */
    private static final class Texts {
        private final Tape tape;
        final River river = new River();
        final int[] acts = new int[ACTS_MOST * ACT_PARTS];
        private final int[] number = new int[2];
        int actCount;
        int lines;
        private int settings;

        Texts(Tape tape) {
            this.tape = tape;
        }

        boolean readRiver() {
            river.empty();
            lines = 0;
            settings = 0;
            tape.startText(RIVER_MOST);
            while (lines < RIVER_MOST && tape.kind != KIND_END) {
                if (!readLine() || !tape.takeSemicolon()) {
                    return false;
                }
                lines++;
            }
            if (tape.tooLong || river.legCount < river.quayCount - 1) {
                return tape.refuse(FAULT_TOKEN);
            }
            return true;
        }

        /** A LINE up to its semicolon. */
        private boolean readLine() {
            if (!tape.wantKind(KIND_WORD)) {
                return false;
            }
            switch (tape.value) {
                case WORD_QUAY:
                    return readQuay();
                case WORD_LEG:
                    return readLeg();
                case WORD_BARGE:
                    return readBarge();
                case WORD_RAFT:
                case WORD_KNOT:
                case WORD_HOLD:
                case WORD_TURN:
                    return readSetting(tape.value);
                default:
                    return tape.refuse(FAULT_TOKEN);
            }
        }

        private boolean readQuay() {
            int q = river.quayCount;
            if (q >= QUAYS_MOST) {
                return tape.refuse(FAULT_MANY);
            }
            tape.advance();
            if (!readNewName(river.quayNames, q)) {
                return false;
            }
            if (tape.kind != KIND_WORD || tape.value < WORD_LEFT || tape.value > WORD_BOTH) {
                return tape.refuse(FAULT_TOKEN);
            }
            int at = q * QUAY_PARTS;
            river.quays[at + SIDE] = tape.value - WORD_LEFT + 1;
            river.quays[at + OPENS] = 0;
            river.quays[at + CLOSES] = DAY;
            tape.advance();
            if (tape.isWord(WORD_OPEN)) {
                tape.advance();
                if (!tape.takeNumber(0, DAY - 1, river.quays, at + OPENS)
                    || !tape.takeNumber(river.quays[at + OPENS] + 1, DAY, river.quays, at + CLOSES)) {
                    return false;
                }
            }
            river.quayCount++;
            return true;
        }

        private boolean readLeg() {
            int k = river.legCount;
            if (k >= river.quayCount - 1 || k >= LEGS_MOST) {
                return tape.refuse(FAULT_MANY);
            }
            tape.advance();
            int at = k * LEG_PARTS;
            if (!tape.takeNumber(1, COLUMNS_MOST, river.legs, at + BROAD)
                || !tape.takeNumber(1, ROWS_MOST, river.legs, at + LONG)
                || !tape.takeNumber(1, 999, river.legs, at + MINUTES)
                || !tape.takeNumber(0, 99, river.legs, at + DEEP)
                || !tape.takeNumber(0, 99, river.legs, at + EDGE)) {
                return false;
            }
            river.legs[at + LOCK_TAKES] = 0;
            river.legs[at + LOCK_EACH] = 0;
            if (tape.isWord(WORD_LOCK)) {
                tape.advance();
                if (!tape.takeNumber(1, 9, river.legs, at + LOCK_TAKES)
                    || !tape.takeNumber(1, 99, river.legs, at + LOCK_EACH)) {
                    return false;
                }
            }
            river.legCount++;
            return true;
        }

        private boolean readBarge() {
            int b = river.bargeCount;
            if (b >= BARGES_MOST) {
                return tape.refuse(FAULT_MANY);
            }
            tape.advance();
            int at = b * BARGE_PARTS;
            if (!readNewName(river.bargeNames, b)
                || !readQuayName(at + FROM, NONE)
                || !readQuayName(at + TO, river.barges[at + FROM])
                || !tape.takeNumber(0, 99, river.barges, at + DRAFT)) {
                return false;
            }
            river.barges[at + APART_BITS] = 0;
            for (int i = 0; i <= BARGES_MOST && tape.isWord(WORD_APART); i++) {
                tape.advance();
                if (!readApart(b)) {
                    return false;
                }
            }
            river.bargeCount++;
            return true;
        }

        private boolean readApart(int b) {
            if (!tape.wantKind(KIND_NAME)) {
                return false;
            }
            int other = river.bargeNamed(tape.value);
            if (other == NONE || river.areApart(b, other)) {
                return tape.refuse(FAULT_NAME);
            }
            river.barges[b * BARGE_PARTS + APART_BITS] |= 1 << other;
            river.barges[other * BARGE_PARTS + APART_BITS] |= 1 << b;
            tape.advance();
            return true;
        }

        private boolean readNewName(int[] names, int at) {
            if (!tape.wantKind(KIND_NAME)) {
                return false;
            }
            if (river.quayNamed(tape.value) != NONE || river.bargeNamed(tape.value) != NONE) {
                return tape.refuse(FAULT_NAME);
            }
            names[at] = tape.value;
            tape.advance();
            return true;
        }

        /** The NAME of a QUAY, another one than that, is put there among what is told of BARGES. */
        private boolean readQuayName(int at, int unlike) {
            if (!tape.wantKind(KIND_NAME)) {
                return false;
            }
            int q = river.quayNamed(tape.value);
            if (q == NONE || q == unlike) {
                return tape.refuse(FAULT_NAME);
            }
            river.barges[at] = q;
            tape.advance();
            return true;
        }

        private boolean readSetting(int word) {
            if ((settings >> word & 1) == 1) {
                return tape.refuse(FAULT_NAME);
            }
            settings |= 1 << word;
            tape.advance();
            if (word == WORD_RAFT) {
                if (!tape.takeNumber(1, COLUMNS_MOST, number, 0) || !tape.takeNumber(1, ROWS_MOST, number, 1)) {
                    return false;
                }
                river.broad = number[0];
                river.rows = number[1];
                return true;
            }
            if (!tape.takeNumber(word == WORD_KNOT ? 1 : 0, 60, number, 0)) {
                return false;
            }
            if (word == WORD_KNOT) {
                river.knot = number[0];
            } else if (word == WORD_HOLD) {
                river.hold = number[0];
            } else {
                river.turn = number[0];
            }
            return true;
        }

        boolean readPlan(River of) {
            actCount = 0;
            tape.startText(PLAN_MOST);
            for (int i = 0; i <= ACTS_MOST && tape.kind != KIND_END; i++) {
                if (!readAct(of) || !tape.takeSemicolon()) {
                    return false;
                }
                actCount++;
            }
            return !tape.tooLong || tape.refuse(FAULT_TOKEN);
        }

        /** An ACT up to its semicolon. */
        private boolean readAct(River of) {
            if (tape.kind != KIND_WORD || tape.value < WORD_OFF || tape.value > WORD_GO) {
                return tape.refuse(FAULT_TOKEN);
            }
            if (actCount >= ACTS_MOST) {
                return tape.refuse(FAULT_MANY);
            }
            int at = actCount * ACT_PARTS;
            int what = tape.value - WORD_OFF;
            acts[at] = what;
            acts[at + 1] = NONE;
            acts[at + 2] = NONE;
            acts[at + 3] = NONE;
            tape.advance();
            if (what == DO_GO) {
                return true;
            }
            if (!tape.wantKind(KIND_NAME)) {
                return false;
            }
            acts[at + 1] = of.bargeNamed(tape.value);
            if (acts[at + 1] == NONE) {
                return tape.refuse(FAULT_NAME);
            }
            tape.advance();
            return what == DO_OFF
                || tape.takeNumber(0, ROWS_MOST - 1, acts, at + 2)
                && tape.takeNumber(0, COLUMNS_MOST - 1, acts, at + 3);
        }
    }

    /** Carries a PLAN out, act by act. */
    private static final class Judge {
        private final State state;
        private final River river;
        private final Grid grid;
        private final Rules rules;
        private final Taking taking;
        final int[] cells = new int[CELLS_MOST];
        int cellCount;
        private boolean asked;
        private boolean worked;
        private int came;
        private int left;
        private int why;
        private int begun;
        private int minute;
        private int stop;
        private int untied;
        private int tied;
        private int waited;

        Judge(State state, Grid grid, Rules rules) {
            this.state = state;
            this.river = state.river;
            this.grid = grid;
            this.rules = rules;
            this.taking = new Taking(state.river, grid);
        }

        int carryOut(int from) {
            start(from);
            for (int i = 0; i < state.actCount; i++) {
                why = wrong(i);
                if (why != 0) {
                    return i;
                }
                perform(i);
            }
            return stop == river.stopCount() - 1 && !anyDue() ? NONE : state.actCount;
        }

        private void start(int from) {
            Arrays.fill(cells, NONE);
            cellCount = grid.cells;
            asked = true;
            worked = false;
            came = 0;
            left = 0;
            why = 0;
            begun = from;
            minute = from;
            stop = 0;
            untied = 0;
            tied = 0;
            waited = 0;
        }

        int tell(int what) {
            if (!asked) {
                return NONE;
            }
            switch (what) {
                case 0:
                    return why;
                case 1:
                    return minute - begun;
                case 2:
                    return stop;
                case 3:
                    return untied;
                case 4:
                    return tied;
                case 5:
                    return waited;
                default:
                    return NONE;
            }
        }

        /** Why an ACT is WRONG, 0 if it is not. */
        private int wrong(int i) {
            int b = state.actPart(i, 1);
            switch (state.actPart(i, 0)) {
                case DO_OFF:
                    if (cellOf(b) == NONE) {
                        return 1;
                    }
                    return river.offStop(b) == stop ? 0 : 2;
                case DO_ON:
                    if (river.onStop(b) != stop || (came >> b & 1) == 1) {
                        return 1;
                    }
                    return isFree(i) ? 0 : 3;
                case DO_SHIFT:
                    if (cellOf(b) == NONE) {
                        return 1;
                    }
                    return isFree(i) ? 0 : 3;
                default:
                    return wrongGo();
            }
        }

        private int wrongGo() {
            if (stop == river.stopCount() - 1) {
                return 4;
            }
            if (anyDue()) {
                return 5;
            }
            if (!rules.holdsTogether(cells)) {
                return 6;
            }
            int leg = river.legBehind(stop);
            if (!rules.hasRoom(cells, leg, 0)) {
                return 7;
            }
            return rules.goMinutes(grid.bitsOf(cells), leg) == NONE ? 8 : 0;
        }

        private int cellOf(int b) {
            for (int k = 0; k < cellCount; k++) {
                if (cells[k] == b) {
                    return k;
                }
            }
            return NONE;
        }

        /** Whether the CELL that an ACT tells is one of the GRID, with nobody in it. */
        private boolean isFree(int i) {
            int row = state.actPart(i, 2);
            int column = state.actPart(i, 3);
            return row >= 0 && row < grid.rows && column >= 0 && column < grid.broad
                && cells[row * grid.broad + column] == NONE;
        }

        private boolean anyDue() {
            for (int b = 0; b < river.bargeCount; b++) {
                if (river.onStop(b) == stop && (came >> b & 1) == 0) {
                    return true;
                }
                if (river.offStop(b) == stop && (left >> b & 1) == 0) {
                    return true;
                }
            }
            return false;
        }

        /** An ACT that is not WRONG. */
        private void perform(int i) {
            int what = state.actPart(i, 0);
            if (what == DO_GO) {
                minute += rules.goMinutes(grid.bitsOf(cells), river.legBehind(stop));
                stop++;
                worked = false;
                return;
            }
            awaitOpening();
            int b = state.actPart(i, 1);
            int old = cellOf(b);
            if (grid.hasCell(old)) {
                weigh(old);
                untied += taking.untied;
                tied += taking.tied;
                cells[old] = NONE;
            }
            if (what == DO_OFF) {
                left |= 1 << b;
                return;
            }
            came |= 1 << b;
            int cell = state.actPart(i, 2) * grid.broad + state.actPart(i, 3);
            if (grid.hasCell(cell)) {
                cells[cell] = b;
                weigh(cell);
                untied += taking.tied;
                tied += taking.untied;
            }
        }

        private void awaitOpening() {
            if (worked) {
                return;
            }
            worked = true;
            int open = river.openFrom(river.quayOf(stop), minute);
            waited += open - minute;
            minute = open;
        }

        private void weigh(int cell) {
            taking.weigh(grid.bitsOf(cells), cell, river.quayPart(river.quayOf(stop), SIDE));
            minute += taking.minutes;
        }
    }

    /** Looks for a FIRST RAFT. */
    private static final class Seating {
        private final River river;
        private final Grid grid;
        private final Rules rules;
        final int[] order = new int[FIRST_BARGES];
        final int[] cells = new int[CELLS_MOST];
        private final int[] trial = new int[CELLS_MOST];
        private int many;

        Seating(River river, Grid grid, Rules rules) {
            this.river = river;
            this.grid = grid;
            this.rules = rules;
        }

        boolean seatAll(int barges) {
            many = Math.min(barges, FIRST_BARGES);
            Arrays.fill(cells, NONE);
            return many > 0 && seat(0);
        }

        /** Seats the BARGES from that one on; those ahead of it sit. */
        private boolean seat(int i) {
            if (i < 0 || i >= many) {
                return false;
            }
            boolean whole = i + 1 == many;
            for (int k = 0; k < grid.cells; k++) {
                if (cells[k] != NONE) {
                    continue;
                }
                cells[k] = order[i];
                if (goesUpWell(whole) && (whole || seat(i + 1))) {
                    return true;
                }
                cells[k] = NONE;
            }
            return false;
        }

        /**
         * Whether those that sit go up as they must. All of it but hanging together can only get
         * worse when more sit, so some of them are looked at likewise, to give up early.
         */
        private boolean goesUpWell(boolean whole) {
            if (!rules.keepsApart(cells)) {
                return false;
            }
            System.arraycopy(cells, 0, trial, 0, CELLS_MOST);
            int bits = grid.bitsOf(trial);
            for (int leg = 0; leg < river.legCount && bits != 0; leg++) {
                if (whole && !grid.hangsTogether(bits)) {
                    return false;
                }
                if (!rules.hasRoom(trial, leg, 0) || rules.goMinutes(bits, leg) == NONE || !comeOff(leg + 1)) {
                    return false;
                }
                bits = grid.bitsOf(trial);
            }
            return true;
        }

        /** Whether all that come off at a QUAY come off without BLOCKERS; then they are off. */
        private boolean comeOff(int q) {
            int side = river.quayPart(q, SIDE);
            int due = dueAt(q);
            // Who comes off blocks nobody any more, so each goes as soon as it can.
            for (int round = 0; round < FIRST_BARGES && due != 0; round++) {
                for (int k = 0; k < grid.cells; k++) {
                    if ((due >> k & 1) == 1 && isClear(k, side)) {
                        trial[k] = NONE;
                        due &= ~(1 << k);
                    }
                }
            }
            return due == 0;
        }

        private int dueAt(int q) {
            int due = 0;
            for (int k = 0; k < grid.cells; k++) {
                if (trial[k] != NONE && river.bargePart(trial[k], TO) == q) {
                    due |= 1 << k;
                }
            }
            return due;
        }

        private boolean isClear(int cell, int side) {
            int bits = grid.bitsOf(trial);
            return (bits & grid.wayBits(WAY_BACK, cell)) == 0
                || (side & 1) == 1 && (bits & grid.wayBits(WAY_LEFT, cell)) == 0
                || (side & 2) == 2 && (bits & grid.wayBits(WAY_RIGHT, cell)) == 0;
        }
    }

    /** All RAFTS of some of at most four BARGES in at most six CELLS. */
    private static final class Rafts {
        int listed;
        final int[] codes = new int[BEST_RAFTS];
        final int[] bits = new int[BEST_RAFTS];
        final int[] aboard = new int[BEST_RAFTS];

        void listAll(int barges, int cells) {
            codes[0] = 0;
            bits[0] = 0;
            aboard[0] = 0;
            listed = 1;
            for (int i = 0; i < barges && i < BEST_BARGES; i++) {
                int known = listed;
                for (int p = 0; p < known; p++) {
                    for (int c = 0; c < cells && c < BEST_CELLS; c++) {
                        addWith(p, i, c);
                    }
                }
            }
        }

        private void addWith(int p, int i, int c) {
            if ((bits[p] >> c & 1) == 1 || listed >= BEST_RAFTS) {
                return;
            }
            codes[listed] = codeWith(codes[p], i, c);
            bits[listed] = bits[p] | 1 << c;
            aboard[listed] = aboard[p] | 1 << i;
            listed++;
        }

        /** The code of a RAFT to which BARGE i comes, into CELL c. */
        static int codeWith(int code, int i, int c) {
            return code | c + 1 << i * CODE_BITS;
        }

        /** The CELL of BARGE i in a RAFT. */
        int placeOf(int p, int i) {
            return (codes[p] >> i * CODE_BITS & 7) - 1;
        }
    }

    /**
     * Looks for BEST. Who is aboard at a STOP tells who came and went, and who comes to a STOP
     * earlier never leaves it later: so the earliest minute of each RAFT at each STOP is enough.
     */
    private static final class Search {
        private static final int MASKS = 1 << BEST_CELLS;

        private final River river;
        private final Grid grid;
        private final Rules rules;
        private final Taking taking;
        private final Rafts rafts = new Rafts();
        private final int[] who = new int[BEST_BARGES];
        private final int[] comes = new int[BEST_BARGES];
        private final int[] leaves = new int[BEST_BARGES];
        private int many;
        private final int[] costs = new int[3 * MASKS * BEST_CELLS];
        private final int[] soundness = new int[BEST_RAFTS];
        private final int[] cells = new int[CELLS_MOST];
        // By code: the earliest minute at which one comes to a STOP, and that with work done there.
        private final int[] arrival = new int[BEST_CODES];
        private final int[] ready = new int[BEST_CODES];
        private int here;
        private int staying;
        private int sideCosts;

        Search(River river, Grid grid, Rules rules) {
            this.river = river;
            this.grid = grid;
            this.rules = rules;
            this.taking = new Taking(river, grid);
        }

        /** One BARGE may be LEFT OUT, and one IN VAIN. */
        void prepare(int leftOut, int inVain) {
            many = 0;
            for (int b = 0; b < river.bargeCount && many < BEST_BARGES; b++) {
                if (b != leftOut) {
                    who[many] = b;
                    comes[many] = river.onStop(b);
                    leaves[many] = b == inVain ? river.vainStop(b) : river.offStop(b);
                    many++;
                }
            }
            rafts.listAll(many, grid.cells);
            Arrays.fill(soundness, 0);
            int sides = 0;
            for (int q = 0; q < river.quayCount; q++) {
                sides |= 1 << river.quayPart(q, SIDE);
            }
            for (int side = 1; side <= 3; side++) {
                if ((sides >> side & 1) == 1) {
                    weighAll(side);
                }
            }
        }

        /** What TAKING costs by the CELLS that are filled: it is the same whoever lies there. */
        private void weighAll(int side) {
            for (int mask = 0; mask < MASKS && mask >> grid.cells == 0; mask++) {
                for (int c = 0; c < grid.cells && c < BEST_CELLS; c++) {
                    if ((mask >> c & 1) == 1) {
                        taking.weigh(mask, c, side);
                        costs[costPlace(side) + mask * BEST_CELLS + c] = taking.minutes;
                    }
                }
            }
        }

        private static int costPlace(int side) {
            return (side - 1) * MASKS * BEST_CELLS;
        }

        /** BEST, one LEG being HIRED or none; NONE, if no PLAN ENDS. */
        int leastMinutes(int minute, int hiredLeg) {
            Arrays.fill(arrival, FAR);
            arrival[0] = minute;
            int last = river.stopCount() - 1;
            for (int stop = 0; stop < last; stop++) {
                work(stop);
                if (!depart(stop, hiredLeg)) {
                    return NONE;
                }
            }
            work(last);
            int end = Math.min(arrival[0], ready[0]);
            return end < FAR ? end - minute : NONE;
        }

        /** All that may be done at a STOP. */
        private void work(int stop) {
            int quay = river.quayOf(stop);
            Arrays.fill(ready, FAR);
            for (int p = 0; p < rafts.listed; p++) {
                int code = rafts.codes[p];
                if (arrival[code] < FAR) {
                    ready[code] = river.openFrom(quay, arrival[code]);
                }
            }
            lookRound(stop);
            sideCosts = costPlace(river.quayPart(quay, SIDE));
            // A sweep leaves nothing more to do for its own BARGE, until another one's changes something.
            int kinds = Integer.bitCount(here);
            int quiet = 0;
            int i = 0;
            for (int round = 0; round < SWEEPS_MOST && quiet < kinds; round++) {
                if ((here >> i & 1) == 1) {
                    quiet = sweep(i, stop) ? 1 : quiet + 1;
                }
                i = i + 1 < many ? i + 1 : 0;
            }
        }

        private void lookRound(int stop) {
            here = 0;
            staying = 0;
            for (int i = 0; i < many; i++) {
                if (comes[i] <= stop && stop <= leaves[i]) {
                    here |= 1 << i;
                }
                if (comes[i] < stop && stop < leaves[i]) {
                    staying |= 1 << i;
                }
            }
        }

        /** All that one BARGE can do, whatever the others did; whether something got better. */
        private boolean sweep(int i, int stop) {
            int may = here & ~(1 << i);
            int must = staying & ~(1 << i);
            boolean better = false;
            for (int p = 0; p < rafts.listed; p++) {
                int others = rafts.aboard[p];
                if ((others & ~may) == 0 && (others & must) == must && move(p, i, stop)) {
                    better = true;
                }
            }
            return better;
        }

        /** Moves a BARGE on to, off or about a RAFT of others: each is a TAKE, a PUT or both. */
        private boolean move(int p, int i, int stop) {
            int code = rafts.codes[p];
            int bits = rafts.bits[p];
            int loose = comes[i] == stop ? ready[code] : FAR;
            for (int c = 0; c < grid.cells; c++) {
                if ((bits >> c & 1) == 0) {
                    int cost = costs[sideCosts + (bits | 1 << c) * BEST_CELLS + c];
                    loose = Math.min(loose, ready[Rafts.codeWith(code, i, c)] + cost);
                }
            }
            if (loose >= FAR) {
                return false;
            }
            boolean better = leaves[i] == stop && loose < ready[code];
            if (better) {
                ready[code] = loose;
            }
            for (int c = 0; c < grid.cells; c++) {
                if ((bits >> c & 1) == 0) {
                    int with = Rafts.codeWith(code, i, c);
                    int then = loose + costs[sideCosts + (bits | 1 << c) * BEST_CELLS + c];
                    if (then < ready[with]) {
                        ready[with] = then;
                        better = true;
                    }
                }
            }
            return better;
        }

        /** Goes on to the next STOP with all RAFTS that may; whether there are any. */
        private boolean depart(int stop, int hiredLeg) {
            int leg = river.legBehind(stop);
            int more = leg == hiredLeg ? 1 : 0;
            int bound = 0;
            for (int i = 0; i < many; i++) {
                if (comes[i] <= stop && stop < leaves[i]) {
                    bound |= 1 << i;
                }
            }
            boolean any = false;
            for (int p = 0; p < rafts.listed; p++) {
                int code = rafts.codes[p];
                int minute = Math.min(arrival[code], ready[code]);
                arrival[code] = FAR;
                if (rafts.aboard[p] == bound && minute < FAR) {
                    int takes = sail(p, leg, more);
                    if (takes != NONE) {
                        arrival[code] = minute + takes;
                        any = true;
                    }
                }
            }
            return any;
        }

        /** The minutes of a RAFT on a LEG; NONE, if it may not go there. */
        private int sail(int p, int leg, int more) {
            if (soundness[p] == NONE) {
                return NONE;
            }
            Arrays.fill(cells, NONE);
            for (int i = 0; i < many; i++) {
                int place = rafts.placeOf(p, i);
                if (grid.hasCell(place)) {
                    cells[place] = who[i];
                }
            }
            if (soundness[p] == 0) {
                soundness[p] = rules.holdsTogether(cells) ? 1 : NONE;
            }
            if (soundness[p] == NONE || !rules.hasRoom(cells, leg, more)) {
                return NONE;
            }
            return rules.goMinutes(rafts.bits[p], leg);
        }
    }
}
