/** The edges of calls: the new object, the tape, what is refused and then stays, images, a new RIVER. */
public final class CallEdgesTest {
    private static final int[] FAR = {-2, -1000, Integer.MIN_VALUE, Integer.MAX_VALUE, 1000, 24, 32, 64};
    private static final String RIVER = "quay a left;quay b right open 5 9;quay c both;leg 3 3 10 40 30 lock 2 5;leg 2 3 20 30 20;"
        + "barge x a b 1;barge y a c 2 apart x;barge z c a 3;barge w b a 4;raft 2 3;knot 4;hold 2;turn 7;";

    private static BargeRaft full() {
        BargeRaft x = Calls.on(RIVER);
        Calls.plan(x, "on x 0 0;on y 1 1;go;off x;");
        Calls.lay(x, 1, 0, 2, 3, 0, 0);
        x.taking(2, 0);
        x.judge(700);
        x.passes(0);
        x.hired(500);
        x.water(3);
        return x;
    }

    // ---- Promise 1

    private static void newObject() {
        Due.says("Promise 1: An empty RIVER; an empty tape");
        BargeRaft x = new BargeRaft();
        int[] counts = {0, 0, 0, 3, 3, 0, 0, 0, 0};
        for (int w = 0; w < counts.length; w++) {
            Due.due("count " + w, x.count(w), counts[w]);
        }
        for (int k = -1; k <= 9; k++) {
            Due.due("cell " + k, x.cell(k), -1);
            Due.due("taking " + k, x.taking(k, 0), -1);
        }
        Due.due("knots", x.knots(), 0);
        Due.due("sound", x.sound(), 1);
        Due.due("fits", x.fits(0), -1);
        Due.due("passes", x.passes(0), -1);
        Due.due("deep", x.deep(0, 0), -1);
        Due.missing("quay", () -> x.quay(0, 0));
        Due.missing("leg", () -> x.leg(0, 0));
        Due.missing("barge", () -> x.barge(0, 0));
        Due.missing("act", () -> x.act(0, 0));
        Due.due("judge", x.judge(0), -2);
        Due.due("best", x.best(0), -2);
        Due.due("hired", x.hired(0), -2);
        Due.due("vain", x.vain(0, 0), -2);
        Due.due("without", x.without(0, 0), -2);
        Due.due("first of none", x.first(), -1);
        Due.due("first of one", Calls.first(x, 0), -1);
        Due.due("lay of no byte", x.lay(), -1);
        Due.due("lay of nine empty cells", Calls.lay(x, 0, 0, 0, 0, 0, 0, 0, 0, 0), 0);
        Due.due("lay of barge 0", Calls.lay(x, 1, 0, 0, 0, 0, 0, 0, 0, 0), -1);
        Due.due("water", x.water(9), true);
        Due.due("end 0", x.end(0), true);
        Due.due("end 1", x.end(1), false);
        Due.due("a river of no line", x.river(), 0);
        Due.due("a plan of no act", x.plan(), 0);
        Due.due("image of it", x.image(1), true);
    }

    private static void aheadOfAny() {
        BargeRaft x = new BargeRaft();
        Due.says("Promise 5: 0 without one and ahead of any");
        Due.due("fault ahead of any", x.fault(), 0);
        Due.says("Promise 13: NONE for another what, or ahead of any");
        for (int w = -1; w <= 4; w++) {
            Due.due("takenBy " + w, x.takenBy(w), -1);
        }
        Due.says("Promise 17: 0 ahead of any");
        Due.due("passedBy", x.passedBy(), 0);
        Due.says("Promise 23: NONE for another what, or ahead of any");
        for (int w = -1; w <= 6; w++) {
            Due.due("judged " + w, x.judged(w), -1);
        }
        Due.says("Promise 24: NONE: nothing, no such CELL of that GRID, or ahead of any");
        for (int k = -1; k <= 24; k++) {
            Due.due("judgedAt " + k, x.judgedAt(k), -1);
        }
        Due.says("Promise 28: NONE ahead of any");
        Due.due("hiredBy", x.hiredBy(), -1);
        Due.says("Promise 32: false: no such one, or nothing is kept there");
        Due.due("restore 0", x.restore(0), false);
        Due.due("restore 1", x.restore(1), false);
    }

    // ---- Promises 2 and 3

    private static void feed() {
        Due.says("Promise 2: Twenty bytes come behind the tape, of each number the highest first: how many it has");
        BargeRaft x = Calls.on("raft 4 5;quay a left;quay b left;leg 1 1 1 1 1;barge p a b 1;barge q a b 1;barge r a b 1;barge s a b 1;"
            + "barge t a b 1;barge u a b 1;barge v a b 1;barge w a b 1;barge x a b 1;");
        Due.due("feed", x.feed(0x01020304, 0x00000005, 0x06000000, 0x00070800, 9), 20);
        Due.due("nine laid", x.lay(), 9);
        int[] cells = {0, 1, 2, 3, -1, -1, -1, 4, 5, -1, -1, -1, -1, 6, 7, -1, -1, -1, -1, 8};
        for (int k = 0; k < 20; k++) {
            Due.due("cell " + k, x.cell(k), cells[k]);
        }
        Due.due("negative numbers", x.feed(-1, Integer.MIN_VALUE, 0, 0, 0), 20);
        Due.due("byte 255 is no barge", x.lay(), -1);
        x.feed(0, 0, 0, 0, Integer.MIN_VALUE);
        Due.due("nor is 128", x.lay(), -1);
        x.feed(0x20202020, 0x20202020, 0x20202020, 0x20202020, 0x2020203f);
        Due.due("behind the tape", x.feed(0x3f3f3f3f, 0x3f3f3f3f, 0x3f3f3f3f, 0x3f3f3f3f, 0x3f3f3f3f), 40);
        Due.due("the last of twenty", x.river(), -1 - 19);
        Due.says("Promise 2: NONE, and none come, if it would have more than 940");
        BargeRaft y = new BargeRaft();
        for (int i = 1; i <= 47; i++) {
            Due.due("feed " + i, y.feed(0x20202020, 0x20202020, 0x20202020, 0x20202020, 0x20202020), 20 * i);
        }
        Due.due("above 940", y.feed(0, 0, 0, 0, 0), -1);
        Due.due("none come", y.count(7), 940);
        y.end(921);
        Due.due("941 would be", y.feed(0, 0, 0, 0, 0), -1);
        Due.due("none come", y.count(7), 921);
        y.end(920);
        Due.due("just 940", y.feed(0, 0, 0, 0, 0), 940);
        y.end(920);
        Due.due("what came before is as it was", y.river(), -1 - 900);
        Due.due("from the start again", y.feed(0, 0, 0, 0, 0), 20);
    }

    private static void end() {
        Due.says("Promise 3: The tape has its first n bytes alone: true; false, if it has not so many, or n is below 0");
        BargeRaft x = new BargeRaft();
        x.feed(0x6b6e6f74, 0x20353b20, 0x3f000000, 0, 0);
        int[] not = {-1, 21, 940, 941, Integer.MAX_VALUE, Integer.MIN_VALUE};
        for (int n : not) {
            Due.due("end " + n, x.end(n), false);
            Due.due("it has its bytes, end " + n, x.count(7), 20);
        }
        Due.due("all", x.end(20), true);
        Due.due("all there", x.count(7), 20);
        Due.due("7", x.end(7), true);
        Due.due("8 any more", x.end(8), false);
        Due.due("7 there", x.count(7), 7);
        Due.due("they are the first ones", x.river(), 1);
        Due.due("empty: 1", x.end(1), false);
        Due.due("empty: 0", x.end(0), true);
        x.feed(0, 0, 0, 0, 0);
        Due.due("none", x.end(0), true);
        Due.due("none there", x.count(7), 0);
        BargeRaft y = full();
        Calls.tape(y, 1, 2, 3);
        String before = Looks.all(y);
        y.end(4);
        Due.same("end refused", Looks.all(y), before);
    }

    private static void emptyTape() {
        Due.says("Promise 4: The tape (empty then, here and below, whatever is answered)");
        BargeRaft x = full();
        String[] texts = {"knot 5", "?", " ".repeat(940)};
        for (String text : texts) {
            Calls.river(x, text);
            Due.due("behind river", x.count(7), 0);
            Calls.plan(x, text);
            Due.due("behind plan", x.count(7), 0);
        }
        Calls.plan(x, "go;");
        Due.due("behind a good plan", x.count(7), 0);
        int[][] rows = {{}, {0}, {1, 1, 0, 0, 0, 0}, {1, 2, 0, 0, 0, 0}, {0, 1}, {2}, {9}};
        for (int[] row : rows) {
            Calls.lay(x, row);
            Due.due("behind lay", x.count(7), 0);
            Calls.first(x, row);
            Due.due("behind first", x.count(7), 0);
        }
        Calls.river(x, "");
        Due.due("behind a good river", x.count(7), 0);
        BargeRaft y = full();
        Calls.tape(y, 7, 7, 7);
        askAll(y);
        Due.due("no other call looks at it", y.count(7), 3);
    }

    /** Every call but those that read the tape. */
    private static void askAll(BargeRaft x) {
        x.fault();
        x.cell(0);
        x.knots();
        x.taking(0, 0);
        x.takenBy(0);
        x.sound();
        x.fits(0);
        x.passes(0);
        x.passedBy();
        x.deep(0, 0);
        x.water(1);
        x.judge(0);
        x.judged(0);
        x.judgedAt(0);
        x.best(0);
        x.hired(0);
        x.hiredBy();
        x.vain(0, 0);
        x.without(0, 0);
        x.image(0);
        x.restore(0);
    }

    private static void faults() {
        Due.says("Promise 4: how many LINES; -1 less the place of a FAULT: it stays");
        BargeRaft x = full();
        String before = Looks.kept(x);
        Due.due("at 0", Calls.river(x, "?"), -1);
        Due.due("at 1", Calls.river(x, "\n?"), -2);
        Due.due("at 900", Calls.river(x, " ".repeat(901)), -901);
        Due.same("it stays", Looks.kept(x), before);
        Due.due("no line", Calls.river(new BargeRaft(), ""), 0);
        Due.says("Promise 5: The kind of the FAULT of the latest river() or plan()");
        Due.due("river: 1", x.fault(), 1);
        Calls.plan(x, "on x 6 0;");
        Due.due("plan: 2", x.fault(), 2);
        Calls.river(x, "barge x x");
        Due.due("river: 3", x.fault(), 3);
        Calls.plan(x, "go;");
        Due.due("plan: none", x.fault(), 0);
        Calls.river(x, "leg");
        Due.due("river: 4", x.fault(), 4);
        Calls.lay(x, 1);
        Calls.first(x, 9);
        x.feed(0, 0, 0, 0, 0);
        x.end(0);
        askAll(x);
        Due.due("other calls leave it", x.fault(), 4);
        Calls.river(x, "");
        Due.due("river: none", x.fault(), 0);
    }

    // ---- Promises 6 to 8, and 21

    private static void refusedThrows(String what, BargeRaft x, int most, int parts, Asked asked) {
        for (int i = 0; i < most; i++) {
            for (int w = 0; w < parts; w++) {
                asked.ask(i, w);
            }
        }
        String before = Looks.all(x);
        for (int w = -1; w <= parts; w++) {
            int part = w;
            Due.missing(what + " -1 " + w, () -> asked.ask(-1, part));
            Due.missing(what + " " + most + " " + w, () -> asked.ask(most, part));
        }
        Due.missing(what + " 0 -1", () -> asked.ask(0, -1));
        Due.missing(what + " 0 " + parts, () -> asked.ask(0, parts));
        Due.missing(what + " last " + parts, () -> asked.ask(most - 1, parts));
        Due.missing(what + " last -1", () -> asked.ask(most - 1, -1));
        for (int far : FAR) {
            Due.missing(what + " " + far, () -> asked.ask(far, 0));
            Due.missing(what + " what " + far, () -> asked.ask(0, far));
        }
        Due.same("A call that throws changes nothing", Looks.all(x), before);
    }

    private interface Asked {
        int ask(int i, int what);
    }

    private static void throwing() {
        Due.says("Promises 6, 7, 8, 21: NoSuchElementException: no such ones. A call that throws changes nothing");
        BargeRaft x = full();
        refusedThrows("quay", x, 3, 3, (i, w) -> x.quay(i, w));
        BargeRaft y = full();
        refusedThrows("leg", y, 2, 7, (i, w) -> y.leg(i, w));
        BargeRaft z = full();
        refusedThrows("barge", z, 4, 6, (i, w) -> z.barge(i, w));
        BargeRaft v = full();
        refusedThrows("act", v, 4, 4, (i, w) -> v.act(i, w));
        StringBuilder most = new StringBuilder();
        for (int q = 0; q < 8; q++) {
            most.append("quay q").append((char) ('a' + q)).append(" left;").append(q > 0 ? "leg 1 1 1 1 1;" : "");
        }
        for (int b = 0; b < 9; b++) {
            most.append("barge b").append((char) ('a' + b)).append(" qh qa 1;");
        }
        BargeRaft w = Calls.on(most.toString());
        Calls.plan(w, "go;".repeat(60));
        Due.due("last quay", w.quay(7, 2), 1440);
        Due.due("last leg", w.leg(6, 6), 0);
        Due.due("last barge", w.barge(8, 5), 14);
        Due.due("last act", w.act(59, 3), -1);
        Due.missing("quay 8", () -> w.quay(8, 0));
        Due.missing("leg 7", () -> w.leg(7, 0));
        Due.missing("barge 9", () -> w.barge(9, 0));
        Due.missing("act 60", () -> w.act(60, 0));
        // What an earlier text told is not there any more, though the rows had it.
        Calls.river(w, "quay a left;");
        Due.missing("quay 1 of an earlier river", () -> w.quay(1, 0));
        Due.missing("leg 0 of an earlier river", () -> w.leg(0, 0));
        Due.missing("barge 0 of an earlier river", () -> w.barge(0, 0));
        Due.missing("act 0 of an earlier river", () -> w.act(0, 0));
    }

    private static void acts() {
        Due.says("Promise 21: 0 what (0 off, 1 on, 2 shift, 3 go), 1 the BARGE, 2 row, 3 column (NONE: none)");
        BargeRaft x = full();
        String[] texts = {"on w 5 3;shift z 4 2;off y;go;", "go;off x;shift y 1 1;on z 0 0;", "off w;go;go;off x;", "shift w 0 3;on w 5 0;on x 1 2;shift x 3 3;"};
        int[][][] dues = {{{1, 3, 5, 3}, {2, 2, 4, 2}, {0, 1, -1, -1}, {3, -1, -1, -1}}, {{3, -1, -1, -1}, {0, 0, -1, -1}, {2, 1, 1, 1}, {1, 2, 0, 0}},
            {{0, 3, -1, -1}, {3, -1, -1, -1}, {3, -1, -1, -1}, {0, 0, -1, -1}}, {{2, 3, 0, 3}, {1, 3, 5, 0}, {1, 0, 1, 2}, {2, 0, 3, 3}}};
        for (int t : new int[] {0, 1, 2, 3, 2, 0, 3, 1}) {
            Due.due("plan " + texts[t], Calls.plan(x, texts[t]), 4);
            for (int i = 0; i < 4; i++) {
                for (int w = 0; w < 4; w++) {
                    Due.due("act " + i + " " + w + " of " + texts[t], x.act(i, w), dues[t][i][w]);
                }
            }
        }
    }

    private static void stops() {
        Due.says("Promise 8: 4 the STOP at which it comes on, 5 off");
        BargeRaft x = Calls.on("quay a left;quay b left;quay c left;leg 1 1 1 1 1;leg 1 1 1 1 1;"
            + "barge p a b 1;barge q a c 1;barge r b c 1;barge s c b 1;barge t c a 1;barge u b a 1;");
        int[][] dues = {{0, 1}, {0, 2}, {1, 2}, {2, 3}, {2, 4}, {3, 4}};
        for (int b = 0; b < 6; b++) {
            Due.due("on " + b, x.barge(b, 4), dues[b][0]);
            Due.due("off " + b, x.barge(b, 5), dues[b][1]);
        }
        BargeRaft y = Calls.on("quay a left;quay b left;leg 1 1 1 1 1;barge p a b 1;barge q b a 1;");
        Due.due("on at the first", y.barge(0, 4), 0);
        Due.due("off at the turn", y.barge(0, 5), 1);
        Due.due("on at the turn", y.barge(1, 4), 1);
        Due.due("off at the last", y.barge(1, 5), 2);
    }

    // ---- Promises 9 to 13, 19

    private static void lay() {
        Due.says("Promise 9: the tape's bytes being what is in each CELL (0: nothing, b + 1: BARGE b; as many as there are CELLS): how many BARGES");
        BargeRaft x = full();
        Due.due("none", Calls.lay(x, 0, 0, 0, 0, 0, 0), 0);
        Due.due("one", Calls.lay(x, 0, 0, 0, 0, 0, 1), 1);
        Due.due("in the last cell", x.cell(5), 0);
        Due.due("all four", Calls.lay(x, 4, 3, 2, 1, 0, 0), 4);
        Due.due("the last barge", x.cell(0), 3);
        Due.says("Promise 9: NONE: not as told (one twice, too): the RAFT stays");
        String before = Looks.kept(x) + Looks.told(x);
        int[][] not = {{}, {1}, {1, 2, 3, 4, 0}, {1, 2, 3, 4, 0, 0, 0}, {5, 0, 0, 0, 0, 0}, {0, 0, 0, 0, 0, 5}, {255, 0, 0, 0, 0, 0},
            {1, 1, 0, 0, 0, 0}, {1, 0, 0, 0, 0, 1}, {0, 4, 0, 4, 0, 0}, {1, 2, 0, 0, 0, 0, 1}, {128, 0, 0, 0, 0, 0}, {33, 0, 0, 0, 0, 0}, {1, 33, 0, 0, 0, 0}};
        for (int[] row : not) {
            Due.due("row of " + row.length, Calls.lay(x, row), -1);
            Due.same("the raft stays", Looks.kept(x) + Looks.told(x), before);
        }
        for (int broad = 1; broad <= 4; broad++) {
            for (int rows = 1; rows <= 6; rows++) {
                BargeRaft y = Calls.on("quay a left;quay b left;leg 1 1 1 1 1;barge p a b 1;raft " + broad + " " + rows + ";");
                int[] row = new int[broad * rows];
                row[row.length - 1] = 1;
                Due.due("cells of " + broad + " by " + rows, Calls.lay(y, row), 1);
                Due.due("the last one", y.cell(row.length - 1), 0);
                Due.due("behind it", y.cell(row.length), -1);
                Due.due("one less", Calls.lay(y, new int[row.length - 1]), -1);
                Due.due("one more", Calls.lay(y, new int[row.length + 1]), -1);
                Due.due("it stays", y.cell(row.length - 1), 0);
            }
        }
    }

    private static void cells() {
        Due.says("Promise 10: The BARGE in CELL k of the RAFT; NONE: none, no such CELL");
        BargeRaft x = full();
        int[] cells = {0, -1, 1, 2, -1, -1};
        for (int k = 0; k < 6; k++) {
            Due.due("cell " + k, x.cell(k), cells[k]);
        }
        Due.due("cell -1", x.cell(-1), -1);
        Due.due("cell 6", x.cell(6), -1);
        for (int far : FAR) {
            Due.due("cell " + far, x.cell(far), -1);
        }
        BargeRaft y = Calls.on("raft 4 6;quay a left;quay b left;leg 1 1 1 1 1;barge p a b 1;");
        int[] row = new int[24];
        row[23] = 1;
        Calls.lay(y, row);
        Calls.river(y, "raft 2 2;");
        Due.due("cell 23 of an earlier grid", y.cell(23), -1);
        Calls.river(y, "raft 4 6;");
        Due.due("nobody is in it in the next one", y.cell(23), -1);
    }

    private static void taking() {
        Due.says("Promise 12: MINUTES to TAKE what is in CELL k at QUAY q (nothing is changed); NONE: nothing there, no such ones");
        BargeRaft x = full();
        String kept = Looks.kept(x);
        Due.due("cell 0", x.taking(0, 0), 4);
        Due.due("the last quay", x.taking(3, 2), 4);
        Due.same("nothing is changed", Looks.kept(x), kept);
        Due.due("by", x.takenBy(0), 1);
        String told = Looks.told(x);
        int[][] not = {{1, 0}, {4, 0}, {5, 2}, {6, 0}, {-1, 0}, {0, -1}, {0, 3}, {-1, -1}, {6, 3}, {1, 3}};
        for (int[] n : not) {
            Due.due("taking " + n[0] + " " + n[1], x.taking(n[0], n[1]), -1);
        }
        for (int far : FAR) {
            Due.due("cell " + far, x.taking(far, 0), -1);
            Due.due("quay " + far, x.taking(0, far), -1);
        }
        Due.says("Promise 13: by the latest taking() that was not NONE");
        Due.same("it stays", Looks.told(x), told);
        Due.says("Promise 13: 0 the WAY (0 left, 1 right, 2 back), 1 UNTIED, 2 TIED, 3 BLOCKERS; NONE for another what");
        x.taking(0, 1);
        Due.same("cell 0 at the right", Looks.taken(x), " 1 1 0 0");
        Due.due("what 4", x.takenBy(4), -1);
        Due.due("what -1", x.takenBy(-1), -1);
        for (int far : FAR) {
            Due.due("what " + far, x.takenBy(far), -1);
        }
    }

    private static void water() {
        Due.says("Promise 19: The WATER has fallen by n (0 to 99) in all: true; false: not so");
        BargeRaft x = full();
        for (int n : new int[] {0, 1, 98, 99, 0, 42}) {
            Due.due("water " + n, x.water(n), true);
            Due.due("in all", x.count(6), n);
        }
        String before = Looks.all(x);
        for (int n : new int[] {-1, 100, 101, Integer.MIN_VALUE, Integer.MAX_VALUE}) {
            Due.due("water " + n, x.water(n), false);
            Due.same("it stays", Looks.all(x), before);
        }
    }

    // ---- Promises 31 to 33, and what a new RIVER leaves behind

    private static void images() {
        Due.says("Promise 31: RIVER, RAFT, WATER and PLAN are kept in place k (0, 1): true; false: no such one");
        BargeRaft x = full();
        String was = Looks.kept(x);
        for (int k : new int[] {-1, 2, 3, Integer.MAX_VALUE, Integer.MIN_VALUE}) {
            Due.due("image " + k, x.image(k), false);
            Due.due("restore " + k, x.restore(k), false);
        }
        Due.says("Promise 32: false: no such one, or nothing is kept there");
        Due.due("nothing in 0", x.restore(0), false);
        Due.due("nothing in 1", x.restore(1), false);
        Due.same("it is as it was", Looks.kept(x), was);
        Due.due("image 1", x.image(1), true);
        Due.due("nothing in 0 still", x.restore(0), false);
        Calls.river(x, "quay q both;raft 1 1;knot 9;");
        Calls.plan(x, "go;");
        x.water(8);
        Due.due("nothing in 0 still", x.restore(0), false);
        Due.due("image 0", x.image(0), true);
        String second = Looks.kept(x);
        Calls.river(x, "raft 4 6;");
        x.water(1);
        Due.due("restore 1", x.restore(1), true);
        Due.same("all of the first", Looks.kept(x), was);
        Due.due("minutes by its knot", x.taking(0, 0), 4);
        Due.due("its names", Calls.plan(x, "off w;"), 1);
        Due.due("restore 0", x.restore(0), true);
        Due.same("all of the second", Looks.kept(x), second);
        Due.due("names of the second", Calls.plan(x, "off w;"), -5);
        Due.due("restore 1 again", x.restore(1), true);
        Due.same("it is kept still, without that plan", Looks.kept(x), was);
        x.restore(0);
        x.image(1);
        x.restore(1);
        Due.same("kept over another", Looks.kept(x), second);
    }

    private static void imagesLeave() {
        Due.says("Promise 32: They are as kept in place k (the tape, and what other calls told last, stays): true");
        BargeRaft x = full();
        x.image(0);
        Calls.river(x, "quay q both;raft 1 1;knot 9;?");
        Calls.tape(x, "knot 5;");
        String told = Looks.told(x);
        Due.due("restore", x.restore(0), true);
        Due.same("what was told stays", Looks.told(x), told);
        Due.due("the fault stays", x.fault(), 1);
        Due.due("the tape stays", x.count(7), 7);
        Due.due("and its bytes", x.river(), 1);
        Due.due("a new river leaves the image", x.restore(0), true);
        Due.due("its quays", x.count(0), 3);
        BargeRaft y = full();
        y.image(0);
        y.taking(3, 1);
        Calls.plan(y, "go;go;");
        y.judge(9);
        Calls.lay(y, 1, 2, 3, 4, 0, 0);
        y.passes(0);
        String later = Looks.told(y);
        y.restore(0);
        Due.same("what was told later stays, too", Looks.told(y), later);
        BargeRaft z = full();
        String told0 = Looks.all(z);
        z.image(0);
        z.image(1);
        Due.same("an image changes nothing", Looks.all(z), told0);
        z.restore(0);
        Due.same("nor does restoring at once", Looks.all(z), told0);
        // The CELLS of the GRID that was are there again, and no others.
        BargeRaft v = Calls.on("raft 4 6;");
        v.image(0);
        Calls.river(v, "raft 1 1;");
        v.restore(0);
        Due.due("24 cells", Calls.lay(v, new int[24]), 0);
    }

    private static void counts() {
        Due.says("Promise 33: 0 QUAYS, 1 LEGS, 2 BARGES, 3 BROAD of the GRID, 4 LONG, 5 ACTS, 6 WATER, 7 bytes of the tape, 8 STOPS. NONE for another what");
        BargeRaft x = full();
        Calls.tape(x, 1, 2, 3, 4, 5, 6, 7);
        int[] counts = {3, 2, 4, 2, 3, 4, 3, 7, 5};
        for (int w = 0; w < counts.length; w++) {
            Due.due("count " + w, x.count(w), counts[w]);
        }
        Due.due("count -1", x.count(-1), -1);
        Due.due("count 9", x.count(9), -1);
        for (int far : FAR) {
            Due.due("count " + far, x.count(far), -1);
        }
        int[] stops = {0, 1, 3, 5, 7, 9, 11, 13, 15};
        StringBuilder river = new StringBuilder();
        for (int q = 0; q <= 8; q++) {
            Due.due("stops of " + q + " quays", Calls.on(river.toString()).count(8), stops[q]);
            river.append("quay ").append((char) ('a' + q)).append(" left;").append(q > 0 ? "leg 1 1 1 1 1;" : "");
        }
    }

    private static void newRiver() {
        Due.says("A new RIVER: no PLAN (no ACTS), an empty RAFT, no WATER has fallen");
        BargeRaft x = full();
        String told = Looks.told(x);
        Due.due("the same river", Calls.river(x, RIVER), 13);
        Due.due("no acts", x.count(5), 0);
        Due.missing("act 0", () -> x.act(0, 0));
        Due.same("an empty raft", Looks.raft(x), "raft -1 -1 -1 -1 -1 -1");
        Due.due("no water", x.count(6), 0);
        Due.same("what was told last stays", Looks.told(x), told);
        Due.due("no plan does not end", x.judge(0), 0);
        Due.says("A new RIVER, with a FAULT: it stays");
        BargeRaft y = full();
        String was = Looks.kept(y);
        Calls.river(y, RIVER + ";");
        Due.same("all stays", Looks.kept(y), was);
        Due.due("the minutes of its knot, too", y.taking(0, 0), 4);
        Due.due("and its names", Calls.plan(y, "off w;"), 1);
        Due.says("plan: -1 less the place of a FAULT: it stays. plan leaves RAFT and WATER");
        String raft = Looks.raft(y);
        Calls.plan(y, "off w;?");
        Due.due("the plan stays", y.count(5), 1);
        Calls.plan(y, "");
        Due.due("an empty plan is one", y.count(5), 0);
        Due.same("the raft stays", Looks.raft(y), raft);
        Due.due("the water stays", y.count(6), 3);
    }

    private static void lastCall() {
        Due.says("An object is used for at most 512 calls after it has been made");
        BargeRaft x = new BargeRaft();
        for (int i = 1; i <= 511; i++) {
            x.feed(i, i, i, i, i);
        }
        Due.due("the 512th call", x.count(7), 940);
    }

    public static void main(String[] args) {
        newObject();
        aheadOfAny();
        feed();
        end();
        emptyTape();
        faults();
        throwing();
        acts();
        stops();
        lay();
        cells();
        taking();
        water();
        images();
        imagesLeave();
        counts();
        newRiver();
        lastCall();
        Due.close("CallEdgesTest");
    }
}
