/** The edges that '==== 2' and promises 11 to 18 name: KNOTS, WAYS, SOUND, FITS, PASSES, and where deep ones may lie. */
public final class RaftEdgesTest {
    /** Three quays (left, right, both), a leg for any raft told ahead of another one, and nine barges a to i of DRAFT 1. */
    private static String river(String leg, String more) {
        StringBuilder s = new StringBuilder("quay ql left;quay qr right;quay qb both;").append(leg).append("leg 4 6 1 99 99;");
        for (char b = 'a'; b <= 'i'; b++) {
            s.append("barge ").append(b).append(" ql qr 1;");
        }
        return s.append(more).toString();
    }

    private static BargeRaft laid(String river, int... row) {
        BargeRaft x = Calls.on(river);
        int barges = 0;
        for (int b : row) {
            barges += b > 0 ? 1 : 0;
        }
        Due.due("lay", Calls.lay(x, row), barges);
        return x;
    }

    private static boolean share(int k, int l, int broad) {
        return Math.abs(k / broad - l / broad) + Math.abs(k % broad - l % broad) == 1;
    }

    // ---- KNOTS and SOUND

    private static void pairs() {
        Due.says("KNOTS: one for each two BARGES in CELLS that share a side. SOUND: all BARGES hang together by KNOTS");
        for (int broad = 1; broad <= 4; broad++) {
            for (int rows = 1; rows <= 6; rows++) {
                int cells = broad * rows;
                for (int k = 0; k < cells; k++) {
                    BargeRaft x = Calls.on(river("leg 4 6 1 99 99;", "raft " + broad + " " + rows + ";"));
                    for (int l = 0; l < cells; l++) {
                        int[] row = new int[cells];
                        row[l] = 1;
                        row[k] = 2;
                        Calls.lay(x, row);
                        int knots = share(k, l, broad) ? 1 : 0;
                        String what = k + " and " + l + " of " + broad + " by " + rows;
                        Due.due("knots, " + what, x.knots(), knots);
                        Due.due("sound, " + what, x.sound(), k == l || knots == 1 ? 1 : 0);
                    }
                }
            }
        }
    }

    private static void threeByThree() throws Plain.Fault {
        Due.says("KNOTS, SOUND: all sets of CELLS in three rows of three");
        String river = river("leg 4 6 1 99 99;", "");
        Plain p = new Plain();
        p.readRiver(river);
        BargeRaft x = null;
        for (int set = 0; set < 512; set++) {
            x = set % 50 == 0 ? Calls.on(river) : x;
            int[] row = new int[9];
            int[] raft = new int[9];
            for (int k = 0; k < 9; k++) {
                row[k] = (set >> k & 1) * (k + 1);
                raft[k] = row[k] - 1;
            }
            Calls.lay(x, row);
            Due.due("knots of " + set, x.knots(), p.knots(raft).size());
            Due.due("sound " + set, x.sound(), p.sound(raft) ? 1 : 0);
        }
        Due.due("all nine", laid(river, 1, 2, 3, 4, 5, 6, 7, 8, 9).knots(), 12);
    }

    private static void emptyRaft() {
        Due.says("An empty RAFT is SOUND, FITS, and PASSES once");
        BargeRaft x = Calls.on(river("leg 1 1 1 0 0 lock 1 1;", ""));
        x.water(99);
        Due.due("knots", x.knots(), 0);
        Due.due("sound", x.sound(), 1);
        Due.due("fits where there is no water at all", x.fits(0), 1);
        Due.due("passes", x.passes(0), 1);
        Due.due("by no knots", x.passedBy(), 0);
        Due.due("passes without a lock", x.passes(1), 0);
        Calls.lay(x, 1, 0, 0, 0, 0, 0, 0, 0, 0);
        Due.due("one does not fit", x.fits(0), 0);
        Calls.lay(x, 0, 0, 0, 0, 0, 0, 0, 0, 0);
        Due.due("empty again", x.fits(0), 1);
        for (int rows = 1; rows <= 6; rows++) {
            BargeRaft y = Calls.on(river("leg 1 1 1 0 0 lock 1 1;", "raft 1 " + rows + ";"));
            Due.due("once, " + rows + " rows", y.passes(0), 1);
        }
    }

    private static void apart() {
        Due.says("no two that are apart (one told so of the other) share a side");
        String told = "barge p qa qb 1;barge q qa qb 1 apart p;barge r qa qb 1;raft 3 2;";
        String river = "quay qa left;quay qb left;leg 4 6 1 9 9;" + told;
        int[][] beside = {{1, 2, 0, 0, 0, 0}, {2, 1, 0, 0, 0, 0}, {0, 1, 2, 0, 0, 0}, {1, 0, 0, 2, 0, 0}, {2, 0, 0, 1, 0, 0}, {0, 0, 1, 0, 0, 2},
            {0, 0, 0, 0, 2, 1}, {1, 2, 3, 0, 0, 0}, {3, 0, 0, 2, 1, 0}};
        for (int[] row : beside) {
            Due.due("they share one", laid(river, row).sound(), 0);
        }
        Due.due("a knot all the same", laid(river, 1, 2, 0, 0, 0, 0).knots(), 1);
        int[][] not = {{1, 3, 2, 0, 0, 0}, {2, 3, 1, 0, 0, 0}, {1, 3, 0, 0, 2, 0}, {3, 1, 0, 2, 0, 0}, {1, 3, 0, 0, 0, 0}, {2, 0, 0, 3, 0, 0}, {0, 0, 0, 2, 3, 1}};
        for (int[] row : not) {
            Due.due("one between, or a corner", laid(river, row).sound(), 1);
        }
        Due.due("the end of a row and the next one share none", laid(river, 0, 3, 1, 2, 0, 0).sound(), 0);
        Due.due("likewise, all hanging together", laid(river.replace("raft 3 2", "raft 2 3"), 3, 1, 2, 0, 0, 0).sound(), 1);
    }

    // ---- WAYS

    private static void ways() {
        Due.says("WAYS of a CELL: left (all CELLS of its row with lesser columns), right (with greater ones)");
        for (int broad = 1; broad <= 4; broad++) {
            for (int k = 0; k < broad * 3; k++) {
                BargeRaft x = Calls.on(river("leg 4 6 1 99 99;", "knot 1;hold 1;turn 60;raft " + broad + " 3;"));
                for (int l = 0; l < broad * 3; l++) {
                    if (l == k) {
                        continue;
                    }
                    int[] row = new int[broad * 3];
                    row[k] = 1;
                    row[l] = 2;
                    Calls.lay(x, row);
                    int knot = share(k, l, broad) ? 1 : 0;
                    boolean sameRow = k / broad == l / broad;
                    boolean left = sameRow && l < k;
                    boolean right = sameRow && l > k;
                    Due.due("left, " + k + " and " + l + " of " + broad, x.taking(k, 0), knot + (left ? 1 : 0));
                    Due.same("left", Looks.taken(x), " 0 " + knot + " 0 " + (left ? 1 : 0));
                    Due.due("right, " + k + " and " + l + " of " + broad, x.taking(k, 1), knot + (right ? 1 : 0));
                    Due.same("right", Looks.taken(x), " 1 " + knot + " 0 " + (right ? 1 : 0));
                }
            }
        }
        Due.says("back (all CELLS of its column with greater rows)");
        for (int k = 0; k < 24; k += 4) {
            BargeRaft x = Calls.on(river("leg 4 6 1 99 99;", "knot 1;hold 60;turn 0;raft 4 6;"));
            for (int l = 0; l < 24; l++) {
                if (l / 4 == k / 4) {
                    continue;
                }
                // At the left end of its row, at a right quay: by the right way three are held.
                int[] row = new int[24];
                for (int c = 0; c < 4; c++) {
                    row[k + c] = c + 1;
                }
                row[l] = 5;
                Calls.lay(x, row);
                boolean back = l % 4 == 0 && l > k;
                int own = share(k, l, 4) ? 2 : 1;
                Due.due("back, " + k + " and " + l, x.taking(k, 1), own + (back ? 60 : 0));
                Due.same("back", Looks.taken(x), " 2 " + own + " 0 " + (back ? 1 : 0));
            }
        }
    }

    private static void likeWays() {
        Due.says("the least of the QUAY's WAYS (of like ones left, then right, then back)");
        Due.says("At a QUAY there are left and back, right and back, or all three, by its SIDE");
        String free = river("leg 4 6 1 99 99;", "knot 1;hold 1;turn 0;");
        BargeRaft x = laid(free, 0, 0, 0, 0, 1, 0, 0, 0, 0);
        for (int q = 0; q < 3; q++) {
            Due.due("alone", x.taking(4, q), 0);
            Due.due("alone: left, right, left", x.takenBy(0), q == 1 ? 1 : 0);
        }
        x = laid(free, 0, 0, 0, 2, 1, 0, 0, 0, 0);
        Due.due("left is held: right", x.taking(4, 2), 1);
        Due.due("way", x.takenBy(0), 1);
        Due.due("left is held: back", x.taking(4, 0), 1);
        Due.due("way", x.takenBy(0), 2);
        x = laid(free, 0, 0, 0, 2, 1, 3, 0, 0, 0);
        Due.due("both are held: back", x.taking(4, 2), 2);
        Due.due("way", x.takenBy(0), 2);
        x = laid(free, 0, 0, 0, 2, 1, 3, 0, 4, 0);
        Due.due("all three are held: left", x.taking(4, 2), 4);
        Due.due("way", x.takenBy(0), 0);
        Due.due("at the right quay: right", x.taking(4, 1), 4);
        Due.due("way", x.takenBy(0), 1);
        // The turn is as much as to hold one, and one more, and one less.
        int[] way = {0, 0, 2};
        for (int turn = 4; turn >= 2; turn--) {
            x = laid(river("leg 4 6 1 99 99;", "knot 1;hold 3;turn " + turn + ";"), 0, 0, 0, 2, 1, 0, 0, 0, 0);
            Due.due("turn " + turn, x.taking(4, 0), 1 + Math.min(3, turn));
            Due.due("way", x.takenBy(0), way[4 - turn]);
        }
    }

    private static void untied() {
        Due.says("UNTIED are all KNOTS of it and of BLOCKERS, TIED again those of BLOCKERS that are not its own: MINUTES: 'knot' times both, 'hold' times BLOCKERS, 'turn' besides for back");
        String far = river("leg 4 6 1 99 99;", "knot 3;hold 2;turn 60;raft 4 2;");
        BargeRaft x = laid(far, 0, 0, 0, 1, 0, 0, 0, 0);
        Due.due("no knot, no blocker", x.taking(3, 0), 0);
        x = laid(far, 2, 0, 0, 1, 0, 0, 0, 0);
        Due.due("a blocker that shares no side", x.taking(3, 0), 2);
        Due.same("by", Looks.taken(x), " 0 0 0 1");
        x = laid(far, 2, 3, 0, 1, 0, 0, 0, 0);
        Due.due("two that share one with one another: it counts once", x.taking(3, 0), 3 * 2 + 4);
        Due.same("by", Looks.taken(x), " 0 1 1 2");
        x = laid(far, 2, 3, 4, 1, 0, 0, 0, 0);
        Due.due("three in a row", x.taking(3, 0), 3 * (3 + 2) + 6);
        Due.same("by", Looks.taken(x), " 0 3 2 3");
        x = laid(far, 2, 3, 4, 1, 5, 6, 7, 8);
        Due.due("a full grid", x.taking(3, 0), 3 * (7 + 5) + 6);
        Due.same("by", Looks.taken(x), " 0 7 5 3");
        Due.due("its own are not tied again", x.taking(3, 1), 3 * 2);
        Due.same("by", Looks.taken(x), " 1 2 0 0");
        Due.due("knots of others stay as they are", x.taking(4, 0), 3 * 2);
        x = laid(river("leg 4 6 1 99 99;", "knot 3;hold 20;turn 1;raft 4 2;"), 2, 3, 4, 1, 5, 6, 7, 8);
        Due.due("by the back: a turn, one held", x.taking(3, 0), 3 * (3 + 1) + 20 + 1);
        Due.same("by", Looks.taken(x), " 2 3 1 1");
        Due.due("by the left: one held", x.taking(1, 0), 3 * (4 + 1) + 20);
        Due.same("by", Looks.taken(x), " 0 4 1 1");
    }

    // ---- FITS

    private static void fits(String leg, int water, int fits, String grid, int... row) {
        BargeRaft x = laid(river(leg, "raft " + grid + ";"), row);
        x.water(water);
        StringBuilder what = new StringBuilder(leg + " water " + water + " of");
        for (int b : row) {
            what.append(' ').append(b);
        }
        Due.due(what.toString(), x.fits(0), fits);
    }

    private static void fitsRoom() {
        Due.says("It FITS a LEG, if its columns, from the first to the last that has a BARGE, are BROAD at most");
        for (int broad = 1; broad <= 4; broad++) {
            String leg = "leg " + broad + " 6 1 9 9;";
            for (int from = 0; from < 4; from++) {
                for (int to = from; to < 4; to++) {
                    int[] row = new int[8];
                    row[from] = 1;
                    row[4 + to] = 2;
                    fits(leg, 0, to - from + 1 <= broad ? 1 : 0, "4 2", row);
                    int[] back = new int[8];
                    back[to] = 1;
                    back[4 + from] = 2;
                    fits(leg, 0, to - from + 1 <= broad ? 1 : 0, "4 2", back);
                }
            }
        }
        Due.says("its rows LONG at most");
        for (int most = 1; most <= 6; most++) {
            String leg = "leg 4 " + most + " 1 9 9;";
            for (int from = 0; from < 6; from++) {
                for (int to = from; to < 6; to++) {
                    int[] row = new int[12];
                    row[2 * from] = 1;
                    row[2 * to + 1] = 2;
                    fits(leg, 0, to - from + 1 <= most ? 1 : 0, "2 6", row);
                }
            }
        }
        BargeRaft x = Calls.on(river("leg 4 6 1 9 9;", ""));
        int[] corners = new int[24];
        corners[0] = 1;
        corners[23] = 2;
        fits("leg 4 6 1 9 9;", 0, 1, "4 6", corners);
        fits("leg 3 6 1 9 9;", 0, 0, "4 6", corners);
        fits("leg 4 5 1 9 9;", 0, 0, "4 6", corners);
        corners[0] = 0;
        fits("leg 1 1 1 9 9;", 0, 1, "4 6", corners);
        Due.says("Promise 15: NONE: no such one");
        for (int k : new int[] {-1, 2, 3, 31, 32, Integer.MIN_VALUE, Integer.MAX_VALUE}) {
            Due.due("fits " + k, x.fits(k), -1);
            Due.due("passes " + k, x.passes(k), -1);
        }
        Due.due("the last leg", x.fits(1), 1);
    }

    private static void fitsDepth() {
        Due.says("each DRAFT is DEEP at most, less the WATER that has fallen");
        int[] one = {0, 1, 0, 0};
        fits("leg 2 2 1 1 0;", 0, 1, "2 2", one);
        fits("leg 2 2 1 0 0;", 0, 0, "2 2", one);
        fits("leg 2 2 1 99 0;", 98, 1, "2 2", one);
        fits("leg 2 2 1 99 0;", 99, 0, "2 2", one);
        fits("leg 2 2 1 5 99;", 4, 1, "2 2", one);
        fits("leg 2 2 1 5 99;", 5, 0, "2 2", one);
        // BARGES 1 to 8 with DRAFTS 50, 51, 20, 21, 0, 20, 21, 0.
        String river = "quay qa left;quay qb left;leg 3 2 1 50 20;barge p qa qb 50;barge q qa qb 51;barge r qa qb 20;barge s qa qb 21;"
            + "barge t qa qb 0;barge u qa qb 20;barge v qa qb 21;barge w qa qb 0;raft 3 2;";
        Due.due("just as deep", laid(river, 1, 0, 0, 0, 0, 0).fits(0), 1);
        Due.due("deeper by one", laid(river, 2, 0, 0, 0, 0, 0).fits(0), 0);
        Due.due("each: the last one", laid(river, 0, 4, 0, 0, 2, 0).fits(0), 0);
        Due.due("each: the first one", laid(river, 0, 2, 0, 0, 4, 0).fits(0), 0);
        Due.says("if it has just BROAD columns, in the first and the last one EDGE at most, likewise");
        Due.due("both just as deep as the edge", laid(river, 3, 1, 6, 0, 0, 0).fits(0), 1);
        Due.due("the first one deeper", laid(river, 4, 1, 6, 0, 0, 0).fits(0), 0);
        Due.due("the last one deeper", laid(river, 3, 1, 4, 0, 0, 0).fits(0), 0);
        Due.due("the middle one is no edge", laid(river, 3, 4, 6, 0, 7, 0).fits(0), 1);
        Due.due("another row's first one", laid(river, 3, 1, 6, 4, 0, 0).fits(0), 0);
        Due.due("another row's last one", laid(river, 3, 1, 0, 0, 0, 4).fits(0), 0);
        Due.due("one column less: anywhere", laid(river, 4, 1, 0, 7, 0, 0).fits(0), 1);
        Due.due("one column less, on the other side", laid(river, 0, 1, 4, 0, 0, 7).fits(0), 1);
        BargeRaft x = laid(river, 3, 5, 6, 0, 0, 0);
        for (int water : new int[] {0, 1}) {
            x.water(water);
            Due.due("edge, less water " + water, x.fits(0), 1 - water);
        }
        x = laid(river, 5, 0, 8, 0, 0, 0);
        x.water(20);
        Due.due("draft 0 at edge 0", x.fits(0), 1);
        x.water(21);
        Due.due("draft 0 at an edge that fell dry", x.fits(0), 0);
        x = laid(river, 0, 5, 0, 0, 0, 0);
        x.water(50);
        Due.due("draft 0 where it is 0 deep", x.fits(0), 1);
        x.water(51);
        Due.due("draft 0 where it fell dry", x.fits(0), 0);
        String single = "quay qa left;quay qb left;leg 1 2 1 50 20;barge r qa qb 20;barge s qa qb 21;raft 3 2;";
        Due.due("one column is first and last", laid(single, 0, 1, 0, 0, 0, 0).fits(0), 1);
        Due.due("one column is first and last", laid(single, 0, 2, 0, 0, 0, 0).fits(0), 0);
        String edge = "quay qa left;quay qb left;leg 2 2 1 20 50;barge r qa qb 20;barge s qa qb 21;raft 3 2;";
        Due.due("an edge deeper than deep", laid(edge, 1, 0, 0, 0, 0, 0).fits(0), 1);
        Due.due("does not help", laid(edge, 2, 1, 0, 0, 0, 0).fits(0), 0);
        // The GRID is just as broad as the LEG, but the RAFT is not.
        String wide = "quay qa left;quay qb left;leg 4 6 1 50 20;barge s qa qb 21;barge r qa qb 20;barge t qa qb 1;raft 4 1;";
        Due.due("at the grid's end alone", laid(wide, 1, 0, 0, 0).fits(0), 1);
        Due.due("three columns of four", laid(wide, 0, 3, 2, 1).fits(0), 1);
        Due.due("four of four, a gap", laid(wide, 2, 0, 0, 3).fits(0), 1);
        Due.due("four of four, a gap, deeper", laid(wide, 3, 0, 0, 1).fits(0), 0);
    }

    // ---- PASSES

    private static void passes(String grid, int takes, int times, int knots, int... row) {
        BargeRaft x = laid(river("leg 4 6 1 9 9 lock " + takes + " 1;", "raft " + grid + ";"), row);
        StringBuilder what = new StringBuilder(takes + " of");
        for (int b : row) {
            what.append(' ').append(b);
        }
        Due.due("passes, " + what, x.passes(0), times);
        Due.due("passedBy, " + what, x.passedBy(), knots);
    }

    private static void locks() {
        Due.says("It PASSES a lock row by row from the front, some rows together each time, N BARGES at most");
        int[] nine = {1, 2, 3, 4, 5, 6, 7, 8, 9};
        passes("3 3", 9, 1, 0, nine);
        passes("3 3", 8, 2, 3, nine);
        passes("3 3", 6, 2, 3, nine);
        passes("3 3", 5, 3, 6, nine);
        passes("3 3", 3, 3, 6, nine);
        Due.says("it does not, if a row has more than N");
        passes("3 3", 2, -2, 0, nine);
        passes("4 2", 4, 1, 0, 1, 2, 3, 4, 0, 0, 0, 0);
        passes("4 2", 3, -2, 0, 1, 2, 3, 4, 0, 0, 0, 0);
        passes("4 2", 3, -2, 0, 0, 0, 0, 0, 1, 2, 3, 4);
        passes("4 2", 3, 1, 0, 1, 2, 3, 0, 0, 0, 0, 0);
        passes("4 2", 3, 2, 1, 1, 2, 3, 0, 0, 0, 4, 0);
        passes("4 2", 3, 2, 0, 1, 2, 3, 0, 0, 0, 0, 4);
        passes("1 6", 1, 6, 5, 1, 2, 3, 4, 5, 6);
        passes("1 6", 2, 3, 2, 1, 2, 3, 4, 5, 6);
        passes("1 6", 3, 2, 1, 1, 2, 3, 4, 5, 6);
        passes("1 6", 5, 2, 1, 1, 2, 3, 4, 5, 6);
        passes("1 6", 6, 1, 0, 1, 2, 3, 4, 5, 6);
        passes("4 1", 1, 1, 0, 0, 0, 1, 0);
        passes("4 1", 1, -2, 0, 1, 0, 2, 0);
        passes("2 3", 1, 1, 0, 0, 0, 0, 0, 0, 1);
        passes("2 3", 1, 2, 0, 1, 0, 0, 0, 0, 2);
        passes("4 6", 1, 2, 0, 1, 0, 0, 0, 0, 0, 0, 0, 0, 0, 0, 0, 0, 0, 0, 0, 0, 0, 0, 0, 0, 0, 0, 2);
        passes("4 6", 2, 1, 0, 1, 0, 0, 0, 0, 0, 0, 0, 0, 0, 0, 0, 0, 0, 0, 0, 0, 0, 0, 0, 0, 0, 0, 2);
        passes("4 6", 1, 1, 0, 0, 0, 0, 0, 0, 0, 0, 0, 0, 0, 0, 0, 0, 0, 0, 0, 0, 0, 0, 0, 0, 0, 0, 2);
        Due.says("the fewest times, of like ones with the fewest KNOTS between rows of unlike times");
        // Two, two, one: a knot lies behind the second row, two behind the first.
        passes("2 3", 4, 2, 1, 1, 2, 3, 4, 5, 0);
        passes("2 3", 3, 2, 2, 1, 2, 3, 4, 5, 0);
        passes("2 3", 2, 3, 3, 1, 2, 3, 4, 5, 0);
        // More knots in fewer times: one cut of two knots ahead of two cuts of none and one.
        passes("2 4", 4, 2, 2, 1, 0, 2, 3, 4, 5, 6, 0);
        passes("2 4", 3, 2, 2, 1, 0, 2, 3, 4, 5, 6, 0);
        passes("2 4", 2, 4, 4, 1, 0, 2, 3, 4, 5, 6, 0);
        passes("2 4", 3, 2, 0, 1, 0, 0, 2, 0, 3, 4, 0);
        passes("3 4", 2, 2, 0, 1, 2, 0, 0, 0, 0, 3, 0, 0, 0, 0, 0);
        passes("3 4", 3, 1, 0, 1, 2, 0, 0, 0, 0, 3, 0, 0, 0, 0, 0);
    }

    private static void lockCalls() {
        Due.says("Promise 16: How many times for the lock of LEG k (0 without a lock); -2 it does not PASS");
        Due.says("Promise 17: KNOTS between rows of unlike times by the latest passes() that was above 0");
        BargeRaft x = laid(river("leg 4 6 1 9 9 lock 2 1;", "raft 3 2;"), 1, 2, 0, 3, 4, 0);
        Due.due("two times", x.passes(0), 2);
        Due.due("two knots", x.passedBy(), 2);
        Due.due("without a lock", x.passes(1), 0);
        Due.due("no such one", x.passes(2), -1);
        Due.due("no such one", x.passes(-1), -1);
        Calls.lay(x, 1, 2, 3, 4, 0, 0);
        Due.due("it does not", x.passes(0), -2);
        Due.due("without a lock it does", x.passes(1), 0);
        Due.due("the latest stays", x.passedBy(), 2);
        Calls.lay(x, 1, 2, 0, 0, 0, 0);
        Due.due("once", x.passes(0), 1);
        Due.due("no knots", x.passedBy(), 0);
    }

    // ---- deep

    private static void deep() {
        Due.says("Promise 18: 0 nowhere, 1 not in the first or last column (by DRAFT alone, whether there is another one or not), 2 anywhere");
        String barges = "barge p qa qb 10;barge q qa qb 11;barge r qa qb 30;barge s qa qb 31;barge t qa qb 0;barge u qa qb 99;raft 1 1;";
        for (int broad = 1; broad <= 4; broad++) {
            BargeRaft x = Calls.on("quay qa left;quay qb left;leg " + broad + " 1 1 30 10;" + barges);
            int[] dues = {2, 1, 1, 0, 2, 0};
            for (int b = 0; b < 6; b++) {
                Due.due("barge " + b + ", broad " + broad, x.deep(b, 0), dues[b]);
            }
        }
        BargeRaft x = Calls.on("quay qa left;quay qb left;quay qc left;leg 2 1 1 30 10;leg 2 1 1 10 30;" + barges);
        int[] edge = {2, 0, 0, 0, 2, 0};
        for (int b = 0; b < 6; b++) {
            Due.due("an edge deeper than deep, " + b, x.deep(b, 1), edge[b]);
        }
        int[][] dry = {{9, 2, 1}, {10, 2, 1}, {11, 1, 1}, {20, 1, 1}, {30, 1, 0}, {31, 0, 0}, {99, 0, 0}};
        for (int[] d : dry) {
            x.water(d[0]);
            Due.due("draft 0, water " + d[0], x.deep(4, 0), d[1]);
        }
        int[] ten = {2, 1, 1, 1, 0, 0};
        int[] fallen = {0, 1, 19, 20, 21, 99};
        for (int i = 0; i < ten.length; i++) {
            x.water(fallen[i]);
            Due.due("draft 10, water " + fallen[i], x.deep(0, 0), ten[i]);
        }
        Due.says("Promise 18: NONE: no such ones");
        x.water(0);
        int[][] not = {{-1, 0}, {6, 0}, {0, -1}, {0, 2}, {6, 2}, {Integer.MAX_VALUE, 0}, {0, Integer.MAX_VALUE}, {Integer.MIN_VALUE, 0}, {0, Integer.MIN_VALUE}};
        for (int[] n : not) {
            Due.due("deep " + n[0] + " " + n[1], x.deep(n[0], n[1]), -1);
        }
        Due.due("the last ones", x.deep(5, 1), 0);
        x = Calls.on("quay qa left;quay qb left;leg 1 1 1 99 99;barge u qa qb 99;");
        Due.due("99 at 99", x.deep(0, 0), 2);
        x.water(1);
        Due.due("99 at 98", x.deep(0, 0), 0);
    }

    public static void main(String[] args) throws Plain.Fault {
        pairs();
        threeByThree();
        emptyRaft();
        apart();
        ways();
        likeWays();
        untied();
        fitsRoom();
        fitsDepth();
        locks();
        lockCalls();
        deep();
        Due.close("RaftEdgesTest");
    }
}
