/** The edges that '==== 4' and promises 25 to 30 name: FIRST RAFT, BEST, HIRED, IN VAIN, LEFT OUT. */
public final class SearchEdgesTest {
    private static final int[] NO_MINUTES = {-1, 1440, 1441, 2880, Integer.MIN_VALUE, Integer.MAX_VALUE};
    private static final int[] FAR = {-1, 9, 31, 32, 33, 64, Integer.MIN_VALUE, Integer.MAX_VALUE};

    private static int[] row(int... numbers) {
        return numbers;
    }

    // ---- FIRST RAFT

    private static void seated(String what, BargeRaft x, int[] order, int... cells) {
        Due.due(what, Calls.first(x, order), 1);
        StringBuilder due = new StringBuilder("raft");
        for (int b : cells) {
            due.append(' ').append(b);
        }
        Due.same(what, Looks.raft(x), due.toString());
    }

    private static void unseated(String what, BargeRaft x, int answer, int... order) {
        String before = Looks.kept(x) + Looks.told(x) + x.fault();
        Due.due(what, Calls.first(x, order), answer);
        Due.due("tape behind " + what, x.count(7), 0);
        Due.same("all stays, " + what, Looks.kept(x) + Looks.told(x) + x.fault(), before);
    }

    private static String many(int barges, String from, String to) {
        StringBuilder s = new StringBuilder();
        for (int b = 0; b < barges; b++) {
            s.append("barge ").append((char) ('p' + b)).append(' ').append(from).append(' ').append(to).append(" 1;");
        }
        return s.toString();
    }

    private static final String AB = "quay a both;quay b both;leg 4 6 1 9 9;";

    private static void firstMany() {
        Due.says("A FIRST RAFT of some BARGES (1 to 6, all from QUAY 0)");
        BargeRaft x = Calls.on(AB + many(9, "a", "b"));
        Calls.lay(x, 0, 0, 0, 0, 9, 0, 0, 0, 0);
        unseated("none told", x, -1);
        unseated("seven", x, -1, 0, 1, 2, 3, 4, 5, 6);
        unseated("nine", x, -1, 0, 1, 2, 3, 4, 5, 6, 7, 8);
        unseated("seven, one twice", x, -1, 0, 1, 2, 3, 4, 5, 5);
        seated("one", x, row(8), 8, -1, -1, -1, -1, -1, -1, -1, -1);
        seated("two", x, row(8, 0), 8, 0, -1, -1, -1, -1, -1, -1, -1);
        seated("five", x, row(4, 3, 2, 1, 0), 4, 3, 2, 1, 0, -1, -1, -1, -1);
        seated("six", x, row(8, 7, 6, 5, 4, 3), 8, 7, 6, 5, 4, 3, -1, -1, -1);
        seated("who was laid and is not told is not there any more", x, row(0), 0, -1, -1, -1, -1, -1, -1, -1, -1);
        BargeRaft y = Calls.on("quay a both;quay b both;quay c both;leg 4 6 1 9 9;leg 4 6 1 9 9;" + many(2, "a", "c")
            + "barge u b c 1;barge v b a 1;barge w c a 1;raft 2 2;");
        Calls.lay(y, 1, 3, 0, 0);
        for (int b = 2; b < 5; b++) {
            unseated("from another quay", y, -1, b);
            unseated("from another quay, behind one", y, -1, 0, b);
            unseated("from another quay, ahead of one", y, -1, b, 0);
        }
        seated("from quay 0", y, row(1, 0), 1, 0, -1, -1);
    }

    private static void firstBytes() {
        Due.says("Promise 25: the tape's BARGES (byte b: BARGE b; none told twice); NONE: not as told: the RAFT stays");
        BargeRaft x = Calls.on(AB + many(3, "a", "b") + "raft 2 2;");
        Calls.lay(x, 3, 0, 0, 1);
        x.water(1);
        x.taking(0, 0);
        Calls.plan(x, "go;");
        for (int b : new int[] {3, 4, 9, 32, 33, 127, 128, 254, 255}) {
            unseated("no barge " + b, x, -1, b);
            unseated("no barge " + b, x, -1, 0, b);
        }
        unseated("twice", x, -1, 0, 0);
        unseated("twice, one between", x, -1, 2, 1, 2);
        unseated("twice the last", x, -1, 0, 1, 2, 2);
        unseated("without a river", new BargeRaft(), -1, 0);
        unseated("without quays", Calls.on("raft 2 2;"), -1, 0);
        unseated("without barges", Calls.on(AB + "raft 2 2;"), -1, 0);
        String told = Looks.told(x) + x.fault() + x.count(5) + x.count(6);
        seated("all of them", x, row(2, 1, 0), 2, 1, 0, -1);
        Due.same("nothing else", Looks.told(x) + x.fault() + x.count(5) + x.count(6), told);
    }

    private static void firstGrids() {
        Due.says("GRIDS of 9 CELLS at most");
        for (int broad = 1; broad <= 4; broad++) {
            for (int rows = 1; rows <= 6; rows++) {
                BargeRaft x = Calls.on(AB + "barge p a b 1;raft " + broad + " " + rows + ";");
                int[] laid = new int[broad * rows];
                laid[laid.length - 1] = 1;
                Calls.lay(x, laid);
                Due.due("grid " + broad + " " + rows, Calls.first(x, 0), broad * rows <= 9 ? 1 : -1);
                Due.due("where it is", x.cell(broad * rows <= 9 ? 0 : laid.length - 1), 0);
            }
        }
        BargeRaft x = Calls.on(AB + many(6, "a", "b") + "raft 1 5;");
        Calls.lay(x, 0, 6, 0, 0, 0);
        unseated("six in five cells", x, 0, 0, 1, 2, 3, 4, 5);
        seated("five in five cells", x, row(0, 1, 2, 3, 4), 0, 1, 2, 3, 4);
        BargeRaft y = Calls.on("quay a both;quay b both;leg 4 6 1 9 9;" + many(2, "a", "b") + "raft 1 1;");
        seated("one in one", y, row(1), 1);
        unseated("two in one", y, 0, 0, 1);
    }

    private static void firstOff() {
        Due.says("at each QUAY all that come off there can be TAKEN in some order without BLOCKERS (each by a WAY there)");
        // p comes off at b, the others at c; in a full GRID somebody lies behind all of the front row.
        String four = "leg 4 6 1 9 9;leg 4 6 1 9 9;barge p a b 1;barge q a c 1;barge r a c 1;barge s a c 1;raft 2 2;";
        int[] second = row(1, 0, 2, 3);
        seated("left: p not behind q", Calls.on("quay a both;quay b left;quay c both;" + four), second, 1, 2, 0, 3);
        seated("right: p to the right of q", Calls.on("quay a both;quay b right;quay c both;" + four), second, 1, 0, 2, 3);
        seated("both", Calls.on("quay a both;quay b both;quay c both;" + four), second, 1, 0, 2, 3);
        seated("right: p told ahead not to the left", Calls.on("quay a both;quay b right;quay c both;" + four), row(0, 1, 2, 3), 1, 0, 2, 3);
        seated("left: p told ahead to the left", Calls.on("quay a both;quay b left;quay c both;" + four), row(0, 1, 2, 3), 0, 1, 2, 3);
        // Behind the first told lies one that stays: at a QUAY of both sides p is free by the left, q in the middle not at all.
        seated("both: by the left", Calls.on("quay a both;quay b both;quay c both;" + four), row(0, 1, 2, 3), 0, 1, 2, 3);
        // By the back: the SIDES of b are blocked, nobody is behind p.
        seated("left is blocked, back is not", Calls.on("quay a both;quay b left;quay c both;" + four), row(1, 0, 2), 1, 0, 2, -1);
        String six = "leg 4 6 1 9 9;leg 4 6 1 9 9;barge p a b 1;barge q a c 1;barge r a c 1;barge s a c 1;barge t a c 1;barge u a c 1;raft 3 2;";
        BargeRaft x = Calls.on("quay a both;quay b both;quay c both;" + six);
        seated("both are blocked, back is not", x, row(1, 2, 3, 4, 0, 5), 1, 2, 3, 4, 0, 5);
        seated("all three are blocked in the middle of the front row", x, row(1, 0, 2, 3, 4, 5), 1, 2, 0, 3, 4, 5);
        Due.says("in some order");
        String three = "leg 4 6 1 9 9;leg 4 6 1 9 9;barge p a b 1;barge q a b 1;barge r a b 1;barge s a c 1;barge t a c 1;barge u a c 1;raft 3 2;";
        seated("the last first", Calls.on("quay a both;quay b right;quay c both;" + three), row(0, 1, 2, 3, 4, 5), 0, 1, 2, 3, 4, 5);
        seated("the first first", Calls.on("quay a both;quay b left;quay c both;" + three), row(0, 1, 2, 3, 4, 5), 0, 1, 2, 3, 4, 5);
        seated("the first first", Calls.on("quay a both;quay b left;quay c both;" + three), row(2, 1, 0, 3, 4, 5), 2, 1, 0, 3, 4, 5);
        // p is blocked by s to its right, which stays, so r, which comes off by the back, must lie behind p, and not t.
        seated("one that stays blocks", Calls.on("quay a both;quay b right;quay c both;" + three), row(0, 3, 1, 4, 2, 5), 0, 3, 1, 2, 4, 5);
        Due.says("at each QUAY: all that come off there, who is off ahead of it blocks nobody");
        String late = "quay a both;quay b right;quay c right;quay d both;" + "leg 4 6 1 9 9;".repeat(3) + "barge p a c 1;barge q a b 1;barge r a d 1;barge s a d 1;raft 2 2;";
        seated("q is off at b, p behind it at c", Calls.on(late), row(0, 1, 2, 3), 0, 1, 2, 3);
        seated("q was behind p, so it is free at c by the back", Calls.on(late), row(0, 2, 1, 3), 0, 2, 1, 3);
        seated("likewise, r and s the other way round", Calls.on(late), row(0, 3, 2, 1), 0, 3, 1, 2);
        Due.says("nobody else coming on; opening, MINUTES and the way down are not asked");
        String on = "quay a both open 5 6;quay b both open 7 8;quay c both;leg 2 2 999 9 9;leg 1 1 1 1 1;"
            + "barge p a b 1;barge q a c 1;barge r b c 9;barge s b c 9;barge t c a 99;barge u a c 99;raft 2 2;";
        seated("others do not count", Calls.on(on), row(0, 1), 0, 1, -1, -1);
        unseated("when told they do", Calls.on(on), 0, 0, 1, 5);
    }

    private static void firstLegs() {
        Due.says("the RAFT is SOUND and FITS and PASSES each LEG till it is empty");
        String quays = "quay a both;quay b both;quay c both;";
        String two = "barge p a c 1;barge q a c 1;raft 2 2;";
        seated("SOUND: side by side", Calls.on(quays + "leg 2 2 1 9 9;leg 2 2 1 9 9;" + two), row(0, 1), 0, 1, -1, -1);
        seated("FITS the second LEG", Calls.on(quays + "leg 2 2 1 9 9;leg 1 2 1 9 9;" + two), row(0, 1), 0, -1, 1, -1);
        seated("FITS the first LEG", Calls.on(quays + "leg 1 2 1 9 9;leg 2 2 1 9 9;" + two), row(0, 1), 0, -1, 1, -1);
        unseated("a row, then a column", Calls.on(quays + "leg 2 1 1 9 9;leg 1 2 1 9 9;" + two), 0, 0, 1);
        seated("PASSES the second LEG", Calls.on(quays + "leg 2 2 1 9 9;leg 2 2 1 9 9 lock 1 9;" + two), row(0, 1), 0, -1, 1, -1);
        seated("PASSES the first LEG", Calls.on(quays + "leg 2 2 1 9 9 lock 1 9;leg 2 2 1 9 9;" + two), row(0, 1), 0, -1, 1, -1);
        seated("a lock for two", Calls.on(quays + "leg 2 2 1 9 9 lock 2 9;leg 2 2 1 9 9;" + two), row(0, 1), 0, 1, -1, -1);
        unseated("a row for a lock for one", Calls.on(quays + "leg 2 1 1 9 9 lock 1 9;leg 2 2 1 9 9;" + two), 0, 0, 1);
        BargeRaft dry = Calls.on(quays + "leg 2 2 1 9 9;leg 2 2 1 9 2;" + two);
        seated("edge 2", dry, row(0, 1), 0, 1, -1, -1);
        dry.water(1);
        seated("edge 1", dry, row(0, 1), 0, 1, -1, -1);
        dry.water(2);
        seated("edge 0", dry, row(0, 1), 0, -1, 1, -1);
        dry.water(8);
        seated("deep 1", dry, row(0, 1), 0, -1, 1, -1);
        dry.water(9);
        unseated("deep 0", dry, 0, 0, 1);
        String off = "leg 2 2 1 9 9;leg 2 2 1 9 9;barge p a b 1;barge q a c 1;barge r a c 1;raft 2 2;";
        seated("SOUND on the second LEG: not p between q and r", Calls.on(quays + off), row(1, 0, 2), 1, 0, 2, -1);
        seated("SOUND on the second LEG", Calls.on(quays + off), row(0, 1, 2), 0, 1, -1, 2);
        String apart = off.replace("r a c 1", "r a c 1 apart q");
        unseated("apart on the second LEG they do not hang together", Calls.on(quays + apart), 0, 0, 1, 2);
        seated("apart of one that comes off", Calls.on(quays + off.replace("r a c 1", "r a c 1 apart p")), row(0, 1, 2), 0, 1, -1, 2);
        unseated("two that are apart", Calls.on(quays + "leg 2 2 1 9 9;leg 2 2 1 9 9;barge p a c 1;barge q a c 1 apart p;raft 2 2;"), 0, 0, 1);
        Due.says("till it is empty");
        String shut = quays + "leg 2 2 1 9 9;leg 1 1 1 0 0 lock 1 1;barge p a b 1;barge q a b 1;barge r a c 1;raft 2 2;";
        seated("both are off at b", Calls.on(shut), row(0, 1), 0, 1, -1, -1);
        unseated("r goes on", Calls.on(shut), 0, 2);
        unseated("r goes on", Calls.on(shut), 0, 0, 2);
        unseated("it is shut ahead of b", Calls.on(shut.replace("leg 2 2 1 9 9;leg 1 1 1 0 0 lock 1 1;", "leg 1 1 1 0 0 lock 1 1;leg 2 2 1 9 9;")), 0, 0);
        String last = "quay a both;quay b both;leg 1 1 1 9 9;barge p a b 1;barge q a b 1;raft 2 2;";
        unseated("the only LEG", Calls.on(last), 0, 0, 1);
        seated("the only LEG", Calls.on(last), row(1), 1, -1, -1, -1);
        Due.says("the first (BARGE by BARGE as told, the lesser CELL)");
        // q, too deep for an edge, lies in the middle; the first told has the lesser CELL, whatever the others have.
        String deep = "quay a both;quay b both;leg 3 2 1 9 1;barge p a b 1;barge q a b 9;barge r a b 1;barge s a b 1;raft 3 2;";
        seated("p q r", Calls.on(deep), row(0, 1, 2), 0, 1, 2, -1, -1, -1);
        seated("q p r: less broad, anywhere", Calls.on(deep), row(1, 0, 2), 1, 0, -1, 2, -1, -1);
        seated("q p", Calls.on(deep), row(1, 0), 1, 0, -1, -1, -1, -1);
        seated("q p r s: less broad still", Calls.on(deep), row(1, 0, 2, 3), 1, 0, -1, 2, 3, -1);
        seated("q p r s, one row", Calls.on(deep.replace("raft 3 2", "raft 4 1").replace("leg 3 2", "leg 4 1")), row(1, 0, 2, 3), 0, 1, 2, 3);
    }

    // ---- BEST

    private static final String QUAYS = "quay a both;quay b both;";

    /** Answers of best() and of the others that are 'as for best()', with all that each leaves as it was. */
    private static void asForBest(String what, BargeRaft x, int minute, boolean good) {
        String before = Looks.kept(x) + Looks.told(x) + x.fault() + x.count(7);
        boolean barges = x.count(2) > 0;
        int up = barges && x.barge(0, 0) < x.barge(0, 1) ? 0 : -1;
        Due.due("best, " + what, x.best(minute) == -2, !good);
        Due.due("vain, " + what, x.vain(0, minute) == -2, !good || up < 0);
        if (!good || x.count(1) == 0) {
            Due.due("hired, " + what, x.hired(minute), -2);
        }
        Due.same("all stays, " + what, Looks.kept(x) + Looks.told(x) + x.fault() + x.count(7), before);
        if (good && x.count(1) > 0) {
            Due.due("hired, " + what, x.hired(minute) == -2, false);
        }
    }

    private static BargeRaft used(String river) {
        BargeRaft x = Calls.on(river);
        Calls.plan(x, "go;");
        x.judge(3);
        x.hired(0);
        Calls.tape(x, 5, 6, 7);
        return x;
    }

    private static void bestBounds() {
        Due.says("Promise 26: -2: not as told, or no QUAY. BEST, begun in a minute");
        String one = QUAYS + "leg 4 6 5 9 9;barge p a b 1;raft 2 3;";
        for (int minute : NO_MINUTES) {
            asForBest("minute " + minute, used(one), minute, false);
            Due.due("without, minute " + minute, used(one).without(0, minute), -2);
        }
        for (int minute : new int[] {0, 1, 720, 1438, 1439}) {
            asForBest("minute " + minute, used(one), minute, true);
            Due.due("best at " + minute, used(one).best(minute), 10);
            Due.due("without at " + minute, used(one).without(0, minute), 10);
        }
        Due.says("(BARGES 4 at most)");
        for (int barges = 0; barges <= 9; barges++) {
            asForBest(barges + " barges", used(QUAYS + "leg 4 6 5 9 9;" + many(barges, "a", "b") + "raft 2 3;"), 0, barges <= 4);
        }
        Due.says("(GRIDS of 6 CELLS at most)");
        for (int broad = 1; broad <= 4; broad++) {
            for (int rows = 1; rows <= 6; rows++) {
                String grid = "raft " + broad + " " + rows + ";";
                asForBest(grid, used(QUAYS + "leg 4 6 5 9 9;barge p a b 1;" + grid), 0, broad * rows <= 6);
                BargeRaft x = Calls.on(QUAYS + "leg 4 6 5 9 9;barge p a b 1;" + grid);
                Due.due("without, " + grid, x.without(0, 0), broad * rows <= 6 ? 10 : -2);
            }
        }
        asForBest("no raft told", used(QUAYS + "leg 4 6 5 9 9;barge p a b 1;"), 0, false);
        Due.says("or no QUAY");
        asForBest("a new object", new BargeRaft(), 0, false);
        asForBest("no quay, a small raft", Calls.on("raft 1 1;"), 0, false);
        Due.due("without, no quay", Calls.on("raft 1 1;").without(0, 0), -2);
        asForBest("one quay", Calls.on("quay a left;raft 1 1;"), 0, true);
        Due.due("one quay: no minutes", Calls.on("quay a left open 7 8;raft 1 1;").best(0), 0);
        Due.due("one quay: no minutes", Calls.on("quay a left open 7 8;raft 1 1;").best(1439), 0);
    }

    /** BEST, and a PLAN that takes just as long. */
    private static void best(String river, int minute, int due, String plan) {
        BargeRaft x = Calls.on(river);
        Due.due("best at " + minute + " on " + river, x.best(minute), due);
        Due.due("plan " + plan, Calls.plan(x, plan) >= 0, true);
        Due.due("judge " + plan, x.judge(minute), -1);
        Due.due("minutes of " + plan, x.judged(1), due);
    }

    private static void bestMinutes() {
        Due.says("BEST: the fewest minutes of all PLANS that END");
        best(QUAYS + "leg 1 1 5 0 0;raft 1 1;", 0, 10, "go;go;");
        best(QUAYS + "leg 1 1 5 0 0 lock 1 7;raft 1 1;", 0, 24, "go;go;");
        best(QUAYS + "leg 1 1 5 9 9 lock 1 7;barge p a b 1;raft 1 1;", 0, 24, "on p 0 0;go;off p;go;");
        best(QUAYS + "leg 1 1 5 9 9 lock 1 7;barge p b a 1;raft 1 1;", 0, 24, "go;on p 0 0;go;off p;");
        // Side by side a knot is tied and untied; one behind the other the lock needs two times, and its knot.
        String two = "leg 2 2 5 9 9 lock 1 7;barge p a b 1;barge q a b 1;raft 2 2;knot 3;hold 1;turn 60;";
        best(QUAYS + two, 0, 3 + 5 + 14 + 6 + 3 + 5 + 7, "on p 0 0;on q 1 0;go;off p;off q;go;");
        best(QUAYS + two.replace("lock 1", "lock 2"), 0, 3 + 12 + 3 + 12, "on p 0 0;on q 0 1;go;off q;off p;go;");
        // In the GRID of one column at left QUAYS the sides are free, so the turn is never needed.
        best("quay a left;quay b left;leg 1 3 5 9 9;barge p a b 1;barge q a b 1;barge r a b 1;raft 1 3;knot 2;hold 60;turn 60;", 0,
            2 + 2 + 5 + 2 + 2 + 5, "on q 1 0;on p 0 0;on r 2 0;go;off p;off q;off r;go;");
        // In one row at a left QUAY: on from the left, off from the left, or by the back with a turn of none.
        best("quay a left;quay b left;leg 3 1 5 9 9;barge p a b 1;barge q a b 1;barge r a b 1;raft 3 1;knot 2;hold 60;turn 60;", 0,
            4 + 5 + 4 + 5, "on r 0 2;on q 0 1;on p 0 0;go;off p;off q;off r;go;");
        // Apart at the LEG's two edges with a third one between them; all of them must come off by the left.
        best("quay a left;quay b left;leg 3 1 5 9 9;barge p a b 1;barge q a b 1 apart p;barge r a b 1;raft 3 1;knot 2;hold 60;turn 60;", 0,
            4 + 5 + 4 + 5, "on q 0 2;on r 0 1;on p 0 0;go;off p;off r;off q;go;");
        Due.says("BEST: NONE: no PLAN ENDS");
        String shut = "barge p a b 1;barge q a b 1;raft 2 2;";
        Due.due("it fits", Calls.on(QUAYS + "leg 2 1 5 1 1;" + shut).best(0) > 0, true);
        Due.due("too narrow and too short", Calls.on(QUAYS + "leg 1 1 5 1 1;" + shut).best(0), -1);
        Due.due("the edge is too shallow", Calls.on(QUAYS + "leg 2 1 5 1 0;" + shut).best(0), -1);
        Due.due("one behind the other", Calls.on(QUAYS + "leg 1 2 5 1 1;" + shut).best(0) > 0, true);
        Due.due("too shallow", Calls.on(QUAYS + "leg 2 2 5 0 9;" + shut).best(0), -1);
        Due.due("a lock for one", Calls.on(QUAYS + "leg 2 1 5 1 1 lock 1 1;" + shut).best(0), -1);
        Due.due("apart", Calls.on(QUAYS + "leg 2 2 5 1 1;" + shut.replace("q a b 1", "q a b 1 apart p")).best(0), -1);
        Due.due("no cell", Calls.on(QUAYS + "leg 2 2 5 1 1;" + shut.replace("2 2", "1 1")).best(0), -1);
        Due.due("down, no cell", Calls.on(QUAYS + "leg 2 2 5 1 1;barge p b a 1;barge q b a 1;raft 1 1;").best(0), -1);
        Due.due("one up, one down, one cell", Calls.on(QUAYS + "leg 2 2 5 1 1;barge p a b 1;barge q b a 1;raft 1 1;").best(0), 10);
        BargeRaft dry = Calls.on(QUAYS + "leg 2 2 5 9 9;" + shut);
        dry.water(8);
        Due.due("water fell just so far", dry.best(0) > 0, true);
        dry.water(9);
        Due.due("water fell too far", dry.best(0), -1);
        Due.due("hired does not help", dry.hired(0), -1);
        Due.due("nor being in vain", dry.vain(0, 0), -1);
        Due.due("nor leaving one out", dry.without(0, 0), -1);
    }

    private static void bestWaits() {
        Due.says("BEST, begun in a minute: what is waited counts");
        String river = "quay a left open 100 110;quay b left open 200 201;leg 4 6 50 9 9;barge p a b 1;raft 1 1;";
        int[][] dues = {{0, 250}, {99, 151}, {100, 150}, {109, 141}, {110, 1580}, {1439, 251}};
        for (int[] d : dues) {
            best(river, d[0], d[1], "on p 0 0;go;off p;go;");
        }
        Due.due("nobody waits where nothing is done", Calls.on(river.replace("barge p a b 1;", "")).best(0), 100);
        Due.due("without: nobody waits", Calls.on(river).without(0, 0), 100);
        // Two quick ones: the second is put after the QUAY has shut, for nobody waits again.
        best("quay a left open 0 1;quay b left;leg 2 1 5 9 9;barge p a b 1;barge q a b 1;raft 2 1;knot 9;hold 0;turn 60;", 0, 9 + 5 + 9 + 5,
            "on q 0 1;on p 0 0;go;off p;off q;go;");
        // Begun too late it is a day later.
        best("quay a left open 0 1;quay b left;leg 2 1 5 9 9;barge p a b 1;raft 2 1;", 1, 1439 + 10, "on p 0 0;go;off p;go;");
        // To go ahead without working at b is quicker than to wait there.
        String pass = "quay a left;quay b left open 500 501;quay c left;leg 2 2 5 9 9;leg 2 2 5 9 9;barge p a c 1;barge q a c 1;raft 2 2;knot 4;";
        best(pass, 0, 4 + 10 + 4 + 10, "on q 0 1;on p 0 0;go;go;off p;off q;go;go;");
        Due.says("(SHIFTS, too, as often as one likes)");
        // On odd LEGS they must lie side by side, on even ones one behind the other.
        StringBuilder turns = new StringBuilder();
        StringBuilder plan = new StringBuilder("on q 0 1;on p 0 0;go;");
        for (int q = 0; q < 8; q++) {
            turns.append("quay q").append((char) ('a' + q)).append(" both;");
        }
        for (int k = 0; k < 7; k++) {
            turns.append(k % 2 == 0 ? "leg 2 1 1 9 9;" : "leg 1 2 1 9 9;");
        }
        for (int k = 1; k < 7; k++) {
            plan.append(k % 2 == 1 ? "shift q 1 0;go;" : "shift q 0 1;go;");
        }
        plan.append("off q;off p;").append("go;".repeat(7));
        turns.append("barge p qa qh 1;barge q qa qh 1;raft 2 2;knot 4;");
        best(turns.toString(), 0, 4 + 6 * 8 + 4 + 14, plan.toString());
        // On the first LEG x lies in the middle; to hold y, or to turn, costs more than to shift y out of its way.
        best("quay a left;quay b left;quay c left;leg 3 1 10 9 1;leg 2 2 10 9 9;barge x a b 5;barge y a c 1;barge z a c 1;raft 3 2;"
            + "knot 1;hold 60;turn 60;", 0, 2 + 10 + 3 + 10 + 1 + 20, "on z 0 2;on x 0 1;on y 0 0;go;shift y 1 2;off x;go;off z;off y;go;go;");
    }

    // ---- HIRED

    private static void hired(String river, int leg, int minutes) {
        BargeRaft x = Calls.on(river);
        Due.due("hired on " + river, x.hired(0), leg);
        Due.due("hiredBy on " + river, x.hiredBy(), minutes);
    }

    private static void hiredLegs() {
        Due.says("HIRED: a second boat on one LEG: BROAD and LONG are one more there");
        String two = "barge p a b 1;barge q a b 1;raft 3 2;knot 2;";
        hired(QUAYS + "leg 1 1 5 9 9;" + two, 0, 2 + 5 + 2 + 5);
        String row = "barge p a b 1;barge q a b 1;barge r a b 1;raft 3 1;knot 2;";
        hired(QUAYS + "leg 3 1 5 9 9;" + row, 0, 4 + 5 + 4 + 5);
        hired(QUAYS + "leg 2 1 5 9 9;" + row, 0, 4 + 5 + 4 + 5);
        hired(QUAYS + "leg 1 1 5 9 9;" + row, -1, -1);
        String column = row.replace("raft 3 1", "raft 1 3");
        hired(QUAYS + "leg 1 3 5 9 9;" + column, 0, 4 + 5 + 4 + 5);
        hired(QUAYS + "leg 1 2 5 9 9;" + column, 0, 4 + 5 + 4 + 5);
        hired(QUAYS + "leg 1 1 5 9 9;" + column, -1, -1);
        // Of both one more: four in two rows on a LEG for one.
        String four = many(4, "a", "b") + "raft 2 2;knot 2;hold 60;turn 60;";
        hired(QUAYS + "leg 1 1 5 9 9;" + four, 0, 8 + 5 + 8 + 5);
        // Just as broad as the wider LEG, EDGE counts; less broad than it, it does not any more.
        hired(QUAYS + "leg 1 1 5 9 1;barge p a b 2;barge q a b 2;raft 2 1;", -1, -1);
        hired(QUAYS + "leg 1 1 5 9 2;barge p a b 2;barge q a b 2;raft 2 1;knot 2;", 0, 14);
        hired(QUAYS + "leg 2 1 5 9 1;barge p a b 2;barge q a b 2;raft 2 1;knot 2;", 0, 14);
        hired(QUAYS + "leg 1 1 5 9 1;barge p a b 2;raft 1 1;", 0, 10);
        Due.due("not hired", Calls.on(QUAYS + "leg 1 1 5 9 1;barge p a b 2;raft 1 1;").best(0), -1);
        // DEEP, locks and MINUTES are as they were.
        hired(QUAYS + "leg 2 1 5 1 1;barge p a b 2;raft 1 1;", -1, -1);
        hired(QUAYS + "leg 4 6 5 9 9 lock 1 7;barge p a b 1;barge q a b 1;raft 2 1;", -1, -1);
        hired(QUAYS + "leg 4 6 5 9 9 lock 2 7;barge p a b 1;barge q a b 1;raft 2 1;knot 2;", 0, 2 + 12 + 2 + 12);
        Due.says("HIRED: up and down");
        String both = "barge p a b 1;barge q a b 1;barge r b a 1;barge s b a 1;raft 2 1;knot 2;";
        hired(QUAYS + "leg 1 1 5 9 9;" + both, 0, 2 + 5 + 2 + 2 + 5 + 2);
        hired(QUAYS + "leg 1 1 5 9 9;barge r b a 1;barge s b a 1;raft 2 1;knot 2;", 0, 5 + 2 + 5 + 2);
        Due.says("on one LEG");
        String three = "quay a both;quay b both;quay c both;";
        String far = "barge p a c 1;barge q a c 1;raft 2 1;knot 2;";
        hired(three + "leg 1 1 5 9 9;leg 2 1 5 9 9;" + far, 0, 24);
        hired(three + "leg 2 1 5 9 9;leg 1 1 5 9 9;" + far, 1, 24);
        hired(three + "leg 1 1 5 9 9;leg 1 1 5 9 9;" + far, -1, -1);
        Due.says("the LEG with the least BEST (of like ones the first)");
        hired(three + "leg 2 1 5 9 9;leg 2 1 5 9 9;" + far, 0, 24);
        String turned = "barge p a c 1;barge q a c 1;raft 2 2;knot 4;";
        hired(three + "leg 2 1 10 9 9;leg 1 2 10 9 9;" + turned, 0, 4 + 4 + 40);
        String fours = "quay a both;quay b both;quay c both;quay d both;";
        String farther = turned.replace("a c", "a d");
        Due.due("two shifts", Calls.on(fours + "leg 2 1 10 9 9;leg 1 2 10 9 9;leg 2 1 10 9 9;" + farther).best(0), 4 + 8 + 8 + 4 + 60);
        hired(fours + "leg 2 1 10 9 9;leg 1 2 10 9 9;leg 2 1 10 9 9;" + farther, 1, 4 + 4 + 60);
        hired(fours + "leg 2 1 10 9 9;leg 2 1 10 9 9;leg 1 2 10 9 9;" + farther, 2, 4 + 4 + 60);
        hired(fours + "leg 2 1 10 9 9;leg 1 2 10 9 9;leg 1 2 10 9 9;" + farther, 0, 4 + 4 + 60);
        String cut = "leg 3 2 5 9 1;leg 2 1 5 9 1 lock 2 50;barge p a c 1;barge q a c 2;raft 2 2;knot 2;hold 0;turn 0;";
        // q, too deep for the edge, may lie anywhere on the first LEG, and on the second one only if that is hired.
        Due.due("no shift of q can help", Calls.on(three + cut).best(0), -1);
        hired(three + cut, 1, 2 + 5 + 5 + 50 + 2 + 55 + 5);
    }

    private static void hiredAlone() {
        Due.says("HIRED, IN VAIN, LEFT OUT: each by itself");
        String simple = "quay a both;quay b both open 500 501;quay c both;leg 1 1 10 9 9;leg 1 1 20 9 9;barge p a b 1;raft 1 1;";
        BargeRaft x = Calls.on(simple);
        Due.due("hired", x.hired(0), 0);
        Due.due("p is not in vain", x.hiredBy(), 550);
        Due.due("p in vain", x.vain(0, 0), 510);
        Due.due("hired again", x.hired(0), 0);
        Due.due("p is not in vain", x.hiredBy(), 550);
        String narrow = QUAYS + "leg 1 1 5 9 9;barge p a b 1;barge q a b 1;barge r a b 1;raft 2 1;knot 2;";
        BargeRaft y = Calls.on(narrow.replace("barge r a b 1;", ""));
        Due.due("hired", y.hired(0), 0);
        Due.due("no leg is hired, p in vain", y.vain(0, 0), -1);
        Due.due("no leg is hired, best", y.best(0), -1);
        BargeRaft z = Calls.on(narrow);
        Due.due("hired does not help three", z.hired(0), -1);
        Due.due("no leg is hired, one left out", z.without(2, 0), -1);
        Due.due("hired with two of them", Calls.on(narrow.replace("barge r a b 1;", "")).hired(0), 0);
    }

    private static void hiredCalls() {
        Due.says("Promise 27: -2: as for best(), or no LEG. Promise 28: by the latest hired() that was 0 or above; NONE ahead of any");
        BargeRaft x = Calls.on("quay a both;raft 2 1;");
        Due.due("no leg", x.hired(0), -2);
        Due.due("best without a leg", x.best(0), 0);
        Due.due("ahead of any", x.hiredBy(), -1);
        Calls.river(x, QUAYS + "leg 1 1 5 9 9;barge p a b 1;barge q a b 1;raft 1 1;");
        Due.due("with none", x.hired(0), -1);
        Due.due("ahead of any that was 0 or above", x.hiredBy(), -1);
        Calls.river(x, QUAYS + "leg 1 1 5 9 9;barge p a b 1;barge q a b 1;raft 2 1;knot 2;");
        String kept = Looks.kept(x);
        Due.due("with one", x.hired(0), 0);
        Due.due("by it", x.hiredBy(), 14);
        Due.same("nothing is changed", Looks.kept(x), kept);
        Due.due("BROAD as told", x.leg(0, 0), 1);
        Due.due("LONG as told", x.leg(0, 1), 1);
        Due.due("BEST without it", x.best(0), -1);
        Due.due("it does not fit still", Calls.lay(x, 1, 2) * 10 + x.fits(0), 20);
        for (int minute : NO_MINUTES) {
            Due.due("minute " + minute, x.hired(minute), -2);
            Due.due("the latest stays", x.hiredBy(), 14);
        }
        x.water(9);
        Due.due("with none", x.hired(0), -1);
        Due.due("the latest stays", x.hiredBy(), 14);
        Calls.river(x, "quay a both;raft 2 1;");
        Due.due("no leg", x.hired(0), -2);
        Due.due("the latest stays", x.hiredBy(), 14);
        x.best(0);
        Due.due("best leaves it", x.hiredBy(), 14);
        Calls.river(x, QUAYS + "leg 1 1 5 9 9;raft 1 1;");
        Due.due("without barges", x.hired(0), 0);
        Due.due("by it", x.hiredBy(), 10);
        // It waits as BEST does.
        Calls.river(x, "quay a both open 20 21;quay b both;leg 1 1 5 9 9;barge p a b 1;barge q a b 1;raft 2 1;knot 2;");
        Due.due("at 0", x.hired(0), 0);
        Due.due("at 0", x.hiredBy(), 34);
        Due.due("at 1439", x.hired(1439), 0);
        Due.due("at 1439", x.hiredBy(), 35);
        Due.due("at 20", x.hired(20), 0);
        Due.due("at 20", x.hiredBy(), 14);
    }

    // ---- IN VAIN, LEFT OUT

    private static void vain() {
        Due.says("IN VAIN: a BARGE that goes up comes off at its QUAY on the way down");
        String three = "quay a both;quay b both open 500 501;quay c both;leg 2 1 10 9 9;leg 2 1 20 9 9;";
        BargeRaft x = Calls.on(three + "barge p a b 1;barge q a c 1;barge r c a 1;barge s b a 1;raft 2 2;knot 2;");
        String kept = Looks.kept(x);
        // p and q: on 2, b at 12, off at 500 for 2, c at 522, r; back at b at 542, s on at 1940 beside r for 2.
        Due.due("best", x.best(0), 1940 + 2 + 10 + 2);
        // p stays to c, where q comes off and r on beside p (2 each); at b it is 46 + 10, so at 500 p goes (2), s comes (2).
        Due.due("p in vain", x.vain(0, 0), 500 + 4 + 10 + 2);
        Due.due("q comes off at the last quay, which is on both ways", x.vain(1, 0), x.best(0));
        Due.same("nothing is changed", Looks.kept(x), kept);
        Due.due("as told", x.barge(0, 5), 1);
        String simple = "quay a both;quay b both open 500 501;quay c both;leg 1 1 10 9 9;leg 1 1 20 9 9;barge p a b 1;raft 1 1;";
        Due.due("off on the way up", Calls.on(simple).best(0), 550);
        Due.due("off on the way down", Calls.on(simple).vain(0, 0), 510);
        Due.due("off on the way down", Calls.on(simple).vain(0, 450), 50 + 10);
        Due.due("a minute late", Calls.on(simple).vain(0, 451), 1440 + 49 + 10);
        Due.says("IN VAIN: it is aboard on the LEGS between");
        Due.due("it fits there", Calls.on(simple.replace("leg 1 1 20 9 9", "leg 1 1 20 1 1")).vain(0, 0), 510);
        Due.due("too deep there", Calls.on(simple.replace("leg 1 1 20 9 9", "leg 1 1 20 0 1")).vain(0, 0), -1);
        Due.due("the edge there", Calls.on(simple.replace("leg 1 1 20 9 9", "leg 1 1 20 1 0")).vain(0, 0), -1);
        Due.due("best there", Calls.on(simple.replace("leg 1 1 20 9 9", "leg 1 1 20 0 0")).best(0), 550);
        Due.due("in the way of another", Calls.on(simple.replace("raft", "barge q b c 1;raft")).vain(0, 0), -1);
        Due.due("best: one after the other", Calls.on(simple.replace("raft", "barge q b c 1;raft")).best(0), 550);
        Due.due("the other one in vain: c is its last quay", Calls.on(simple.replace("raft", "barge q b c 1;raft")).vain(1, 0), 550);
        Due.due("from b to the last quay and back is no further", Calls.on(simple.replace("p a b", "p b c")).vain(0, 0), 500 + 50);
        Due.says("Promise 29: -2: as for best(), no such one, or it goes down");
        for (int minute : NO_MINUTES) {
            Due.due("minute " + minute, x.vain(0, minute), -2);
        }
        for (int b : FAR) {
            Due.due("no barge " + b, x.vain(b, 0), -2);
        }
        Due.due("the first that there is not", x.vain(4, 0), -2);
        Due.due("down from c", x.vain(2, 0), -2);
        Due.due("down from b", x.vain(3, 0), -2);
        Due.due("the last one that goes up", x.vain(1, 0) > 0, true);
        Due.due("five", Calls.on(QUAYS + "leg 4 6 5 9 9;" + many(5, "a", "b") + "raft 2 3;").vain(0, 0), -2);
        Due.due("four", Calls.on(QUAYS + "leg 4 6 5 9 9;" + many(4, "a", "b") + "raft 2 3;").vain(3, 0) > 0, true);
        Due.due("seven cells and more", Calls.on(QUAYS + "leg 4 6 5 9 9;" + many(1, "a", "b") + "raft 4 2;").vain(0, 0), -2);
        Due.due("no quay", new BargeRaft().vain(0, 0), -2);
        Due.due("no barge", Calls.on(QUAYS + "leg 4 6 5 9 9;raft 2 3;").vain(0, 0), -2);
    }

    private static void without() {
        Due.says("LEFT OUT: a BARGE does not come at all (5 BARGES at most, 4 without it)");
        for (int barges = 0; barges <= 9; barges++) {
            BargeRaft x = Calls.on(QUAYS + "leg 4 6 5 9 9;" + many(barges, "a", "b") + "raft 1 4;knot 2;hold 0;turn 0;");
            for (int b = 0; b < 9; b++) {
                int knots = Math.max(0, barges - 2);
                Due.due("one of " + barges, x.without(b, 0), b < barges && barges <= 5 ? 2 * knots + 5 + 2 * knots + 5 : -2);
            }
            Due.due("best of " + barges, x.best(0) == -2, barges > 4);
        }
        String one = "quay a both;quay b both open 500 501;quay c both;leg 1 1 10 9 9;leg 1 1 20 9 9;barge p a b 1;barge q c a 9;raft 1 1;";
        BargeRaft x = Calls.on(one);
        String kept = Looks.kept(x);
        Due.due("best", x.best(0), 550);
        Due.due("p", x.without(0, 0), 60);
        Due.due("q", x.without(1, 0), 550);
        Due.same("nothing is changed", Looks.kept(x), kept);
        Due.due("p after q", x.without(0, 1439), 60);
        // Five, each of them too much in its own way but the last.
        String five = "quay a both;quay b both;quay c both;leg 2 2 5 9 9;leg 2 2 5 9 9;";
        BargeRaft deep = Calls.on(five + many(4, "a", "b") + "barge u b a 10;raft 2 2;knot 1;hold 0;turn 0;");
        Due.due("the deep one stays", deep.without(0, 0), -1);
        Due.due("the deep one stays", deep.without(3, 0), -1);
        Due.due("the deep one left out", deep.without(4, 0), 4 + 5 + 4 + 5 + 10);
        String apart = five + "barge p a b 1;barge q a b 1 apart p;raft 2 1;";
        Due.due("apart: together", Calls.on(apart).best(0), -1);
        Due.due("apart: the other one left out", Calls.on(apart).without(0, 0), 20);
        Due.due("apart: the one left out", Calls.on(apart).without(1, 0), 20);
        Due.says("Promise 30: -2: not as told, no such one, or no QUAY");
        for (int b : FAR) {
            Due.due("no barge " + b, x.without(b, 0), -2);
        }
        Due.due("the first that there is not", x.without(2, 0), -2);
        for (int minute : NO_MINUTES) {
            Due.due("minute " + minute, x.without(0, minute), -2);
        }
        Due.due("no quay", new BargeRaft().without(0, 0), -2);
        Due.due("no barge", Calls.on(QUAYS + "leg 4 6 5 9 9;raft 2 3;").without(0, 0), -2);
        Due.due("eight cells", Calls.on(QUAYS + "leg 4 6 5 9 9;" + many(2, "a", "b") + "raft 4 2;").without(0, 0), -2);
        Due.due("eight cells", Calls.on(QUAYS + "leg 4 6 5 9 9;" + many(2, "a", "b") + "raft 2 4;").without(0, 0), -2);
    }

    private static void plain() throws Plain.Fault {
        Due.says("BEST, HIRED, IN VAIN, LEFT OUT: of four and five BARGES in six CELLS, as all PLANS gone through tell");
        String river = "quay a left open 60 300;quay b right;quay c both open 200 900;leg 2 3 30 9 4;leg 2 2 40 8 3 lock 2 6;"
            + "barge p a c 2;barge q a b 5;barge r b a 3 apart p;barge s c a 1;raft 2 3;knot 3;hold 2;turn 5;";
        Plain p = new Plain();
        p.readRiver(river);
        BargeRaft x = Calls.on(river);
        for (int minute : new int[] {0, 250, 1439}) {
            Due.due("best " + minute, x.best(minute), p.best(minute, -1, -1, -1));
            for (int b = 0; b < 4; b++) {
                Due.due("without " + b + " " + minute, x.without(b, minute), p.best(minute, -1, -1, b));
                if (b < 2) {
                    Due.due("vain " + b + " " + minute, x.vain(b, minute), p.best(minute, -1, b, -1));
                }
            }
            int one = p.best(minute, 0, -1, -1);
            int two = p.best(minute, 1, -1, -1);
            int least = one < 0 ? two : two < 0 ? one : Math.min(one, two);
            Due.due("hired " + minute, x.hired(minute), least < 0 ? -1 : least == one ? 0 : 1);
            Due.due("hiredBy " + minute, least < 0 || x.hiredBy() == least, true);
        }
    }

    /** Texts in all orders: each has every LINE that is told, once. */
    private static void inAllOrders(String ahead, String[] lines, int used, java.util.List<String> all) {
        if (used == (1 << lines.length) - 1) {
            all.add(ahead);
            return;
        }
        for (int i = 0; i < lines.length; i++) {
            if ((used >> i & 1) == 0) {
                inAllOrders(ahead + lines[i], lines, used | 1 << i, all);
            }
        }
    }

    /** Four in six CELLS, each of which must lie where it does on one LEG, or it takes longer. */
    private static void onlyRaft() {
        Due.says("BEST (BARGES 4 at most, GRIDS of 6 CELLS at most): four in six CELLS where no other RAFT will do");
        // From d on they lie in one column, r between p and q, which are apart; ahead of it in two columns, two rows.
        // On the LEG from c to d that is q r, and behind them s p, in the rows 1 and 2, for these reasons:
        // p comes after q at a right QUAY: so p lies to the right, behind r, where nobody is in the way (5), not q.
        // s comes at a right QUAY, too: p is in its way, so it needs the back (10, and 2 to turn), behind q, not ahead of it.
        // s goes at a left QUAY, from the left (10); q, also on the left, goes ahead of r (10), so row 0 must be empty.
        String quays = "quay a left;quay b right;quay c right;quay d left;quay e left;";
        String legs = "leg 2 2 9 9 9;leg 2 2 9 9 9;leg 2 2 9 9 9;leg 1 3 9 9 9;raft 2 3;knot 5;hold 60;turn 2;";
        String[] told = {"barge p b e 1;", "barge s c d 1;", "barge r a e 1;", "barge q a e 1;"};
        String plan = "on r 1 1;on q 1 0;go;on p 2 1;go;on s 2 0;go;off s;shift q 0 1;go;off p;off r;off q;go;go;go;go;";
        int minutes = 5 + 5 + (10 + 2) + 10 + 10 + 10 + 8 * 9;
        java.util.List<String> orders = new java.util.ArrayList<>();
        inAllOrders("", told, 0, orders);
        Due.due("orders of four", orders.size(), 24);
        for (String order : orders) {
            // Who is told later tells that it is apart from the other one.
            boolean last = order.indexOf("barge q") > order.indexOf("barge p");
            String barges = last ? order.replace("q a e 1", "q a e 1 apart p") : order.replace("p b e 1", "p b e 1 apart q");
            best(quays + legs + barges, 0, minutes, plan);
            // With left and right in each other's place they lie in the other column.
            String other = quays.replace("left", "?").replace("right", "left").replace("?", "right");
            String mirrored = "on r 1 0;on q 1 1;go;on p 2 0;go;on s 2 1;go;off s;shift q 0 0;go;off p;off r;off q;go;go;go;go;";
            best(other + legs + barges, 0, minutes, mirrored);
        }
    }

    /** Four that go up together, in all GRIDS of six CELLS and less, some apart, one for the middle. */
    private static void plainFour() throws Plain.Fault {
        Due.says("BEST of four BARGES at once, GRIDS of 6 CELLS at most; the same object asked one after the other");
        String[] grids = {"2 3", "3 2", "1 6", "1 4", "4 1", "2 2", "1 5"};
        String[] aparts = {"", " apart p", " apart q", " apart r", " apart p apart q", " apart p apart r", " apart q apart r"};
        BargeRaft x = new BargeRaft();
        for (String grid : grids) {
            for (String apart : aparts) {
                String river = "quay a left;quay b right open 40 41;quay c both;leg 3 5 10 9 2;leg 4 6 20 9 9 lock 2 3;barge p a c 1;barge q a b 1;barge r a c 3;"
                    + "barge s a c 1" + apart + ";raft " + grid + ";knot 2;hold 3;turn 4;";
                Plain p = new Plain();
                p.readRiver(river);
                Calls.river(x, river);
                Due.due("best of " + grid + apart, x.best(0), p.best(0, -1, -1, -1));
                for (int b = 0; b < 4; b++) {
                    Due.due("without " + b + " of " + grid + apart, x.without(b, 9), p.best(9, -1, -1, b));
                }
                Due.due("vain 1 of " + grid + apart, x.vain(1, 0), p.best(0, -1, 1, -1));
                Due.due("best again of " + grid + apart, x.best(0), p.best(0, -1, -1, -1));
            }
            x = new BargeRaft();
        }
        BargeRaft y = Calls.on(QUAYS + "leg 4 6 5 9 9;barge p a b 1;barge q a b 1 apart p;barge r a b 1;raft 2 1;knot 1;");
        Due.due("p and q", y.without(2, 0), -1);
        Due.due("p and r", y.without(1, 0), 12);
        Due.due("p and q again", y.without(2, 0), -1);
        Due.due("q and r", y.without(0, 0), 12);
    }

    public static void main(String[] args) throws Plain.Fault {
        firstMany();
        firstBytes();
        firstGrids();
        firstOff();
        firstLegs();
        bestBounds();
        bestMinutes();
        bestWaits();
        hiredLegs();
        hiredAlone();
        hiredCalls();
        vain();
        without();
        plain();
        plainFour();
        onlyRaft();
        Due.close("SearchEdgesTest");
    }
}
