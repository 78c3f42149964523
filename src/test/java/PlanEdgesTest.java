/** The edges that '==== 3' and promises 20 to 24 name: STOPS, who is DUE, waiting, the eight kinds of WRONG, the END. */
public final class PlanEdgesTest {
    private static final String[] SIDES = {"left", "right", "both"};

    /** The answer of judge(), then what judged() tells of 0 to so many. */
    private static void judged(BargeRaft x, String plan, int minute, int answer, int... told) {
        Due.due("plan " + plan, Calls.plan(x, plan) >= 0 ? 1 : 0, 1);
        Due.due("judge " + plan + " at " + minute, x.judge(minute), answer);
        for (int w = 0; w < told.length; w++) {
            Due.due("judged " + w + " of " + plan + " at " + minute, x.judged(w), told[w]);
        }
    }

    private static void judged(String river, String plan, int minute, int answer, int... told) {
        judged(Calls.on(river), plan, minute, answer, told);
    }

    // ---- STOPS

    private static String name(int q) {
        return "q" + (char) ('a' + q);
    }

    /** QUAYS and LEGS: LEG k takes 10 to the k-th part minutes of its own, so that sums tell which were gone. */
    private static String way(int quays) {
        StringBuilder s = new StringBuilder();
        for (int q = 0; q < quays; q++) {
            s.append("quay ").append(name(q)).append(" left;");
        }
        for (int k = 0; k + 1 < quays; k++) {
            s.append("leg 1 1 ").append(1 << k).append(" 9 9;");
        }
        return s.toString();
    }

    private static void stops() {
        Due.says("STOP s is QUAY s up to the last one, then back: of Q QUAYS STOP s is QUAY 2 (Q less 1) less s");
        for (int quays = 1; quays <= 8; quays++) {
            BargeRaft x = Calls.on(way(quays));
            int minutes = 0;
            for (int gone = 0; gone < 2 * quays - 1; gone++) {
                boolean last = gone == 2 * (quays - 1);
                judged(x, "go;".repeat(gone), 0, last ? -1 : gone, 0, minutes, gone, 0, 0, 0);
                minutes += gone < quays - 1 ? 1 << gone : last ? 0 : 1 << 2 * (quays - 1) - gone - 1;
            }
            Due.due("up and down", minutes, 2 * ((1 << quays - 1) - 1));
            judged(x, "go;".repeat(2 * quays - 1), 0, 2 * quays - 2, 4, minutes, 2 * quays - 2);
        }
        Due.says("the last STOP is QUAY 0 again (the first one, if Q is 1)");
        judged(way(1), "", 0, -1, 0, 0, 0);
        judged(way(1), "go;", 0, 0, 4, 0, 0);
        judged(way(2), "", 0, 0, 0, 0, 0);
        judged(way(2), "go;", 0, 1, 0, 1, 1);
        judged(way(2), "go;go;", 0, -1, 0, 2, 2);
        // A barge that comes off at the last STOP does so at QUAY 0: by its SIDE, in its open minutes.
        judged("quay a right open 100 101;quay b left;leg 2 1 10 9 9;barge x b a 1;raft 2 1;",
            "go;on x 0 0;go;off x;", 0, -1, 0, 100, 2, 0, 0, 80);
    }

    private static void quayOfStop() {
        Due.says("STOP s is QUAY s up to the last one, then back: its 'open' and its SIDE");
        // A BARGE shifted at every STOP: QUAY q opens at 100 (q + 1) for one minute.
        for (int quays = 2; quays <= 8; quays++) {
            StringBuilder river = new StringBuilder();
            for (int q = 0; q < quays; q++) {
                river.append("quay ").append(name(q)).append(" left open ").append(100 * q + 100).append(' ').append(100 * q + 101).append(';');
            }
            river.append("leg 4 6 1 9 9;".repeat(quays - 1));
            river.append("barge u qa ").append(name(quays - 1)).append(" 1;barge d ").append(name(quays - 1)).append(" qa 1;raft 1 2;turn 0;");
            StringBuilder plan = new StringBuilder("on u 0 0;");
            int minute = 100;
            for (int stop = 1; stop < quays - 1; stop++) {
                plan.append("go;shift u ").append(stop % 2).append(" 0;");
                minute += 100;
            }
            plan.append("go;off u;on d 0 0;");
            minute += 100;
            for (int stop = quays; stop < 2 * quays - 2; stop++) {
                plan.append("go;shift d ").append((stop - quays + 1) % 2).append(" 0;");
                minute += 1340;
            }
            plan.append("go;off d;");
            minute += 1340;
            judged(river.toString(), plan.toString(), 0, -1, 0, minute, 2 * quays - 2, 0, 0, minute - 2 * (quays - 1));
        }
        // Two side by side: at a left QUAY the left one holds nobody, at a right one it is the other way round.
        for (int q = 0; q < 3; q++) {
            for (int stop = 0; stop < 5; stop++) {
                String river = "quay a " + SIDES[q] + ";quay b " + SIDES[(q + 1) % 3] + ";quay c " + SIDES[(q + 2) % 3]
                    + ";leg 4 6 1 9 9;leg 4 6 1 9 9;barge u a c 1;barge v a c 1;barge d c a 1;barge e c a 1;raft 2 2;knot 1;hold 7;turn 60;";
                String up = "on u 0 0;on v 1 0;" + "go;".repeat(Math.min(stop, 2));
                String down = "off v;off u;on d 0 0;on e 1 0;" + "go;".repeat(stop - 2 > 0 ? stop - 2 : 0);
                String plan = stop < 2 ? up + "shift v 0 1;" : up + down + "shift e 0 1;";
                int quay = stop < 2 ? stop : 4 - stop;
                int side = (q + quay) % 3;
                BargeRaft x = Calls.on(river);
                Calls.plan(x, plan.substring(0, plan.lastIndexOf("shift")));
                x.judge(0);
                int before = x.judged(1);
                // From behind it goes by a side that is free, to the right of the other one.
                judged(x, plan, 0, x.count(5) + 1, 0, before + 1 + 1 + (side == 0 ? 7 : 0), stop);
            }
        }
    }

    private static void wayUpAndDown() {
        Due.says("A BARGE with FROM ahead of TO comes on and off on the way up, the others on the way down");
        String three = "quay a left;quay b left;quay c left;leg 2 2 1 9 9;leg 2 2 1 9 9;raft 2 2;knot 1;";
        judged(three + "barge x a b 1;", "on x 0 0;go;off x;go;go;go;", 0, -1, 0, 4, 4);
        judged(three + "barge x b c 1;", "go;on x 0 0;go;off x;go;go;", 0, -1, 0, 4, 4);
        judged(three + "barge x c b 1;", "go;go;on x 0 0;go;off x;go;", 0, -1, 0, 4, 4);
        judged(three + "barge x b a 1;", "go;go;go;on x 0 0;go;off x;", 0, -1, 0, 4, 4);
        judged(three + "barge x a c 1;", "on x 0 0;go;go;off x;go;go;", 0, -1, 0, 4, 4);
        judged(three + "barge x c a 1;", "go;go;on x 0 0;go;go;off x;", 0, -1, 0, 4, 4);
        // At the same QUAYS on the other way.
        judged(three + "barge x b a 1;", "go;on x 0 0;", 0, 1, 1, 1, 1);
        judged(three + "barge x b a 1;", "on x 0 0;", 0, 0, 1, 0, 0);
        judged(three + "barge x c b 1;", "go;on x 0 0;", 0, 1, 1, 1, 1);
        judged(three + "barge x b c 1;", "on x 0 0;", 0, 0, 1, 0, 0);
        judged(three + "barge x a c 1;", "on x 0 0;go;off x;", 0, 2, 2, 1, 1);
        judged(three + "barge x c a 1;", "go;go;on x 0 0;off x;", 0, 3, 2, 2, 2);
        judged(three + "barge x c a 1;", "go;go;on x 0 0;go;off x;", 0, 4, 2, 3, 3);
        judged(three + "barge x b a 1;", "go;go;go;go;on x 0 0;", 0, 3, 5, 3, 3);
    }

    private static void due() {
        Due.says("DUE at a STOP: who comes off, who comes on there. 5 go: some that are DUE are not off, or did not come");
        String river = "quay a both;quay b both;quay c both;leg 4 6 1 9 9;leg 4 6 1 9 9;knot 1;"
            + "barge p a b 1;barge q a b 1;barge r b c 1;barge s b c 1;barge t b a 1;";
        judged(river, "go;", 0, 0, 5);
        judged(river, "on p 0 0;go;", 0, 1, 5);
        judged(river, "on q 0 0;go;", 0, 1, 5);
        String b = "on p 0 0;on q 0 1;go;";
        judged(river, b + "go;", 0, 3, 5, 2, 1);
        judged(river, b + "off p;go;", 0, 4, 5);
        judged(river, b + "off q;on r 0 0;on s 1 0;go;", 0, 4, 3);
        judged(river, b + "off q;on r 1 0;on s 2 0;go;", 0, 6, 5);
        judged(river, b + "off q;off p;go;", 0, 5, 5);
        judged(river, b + "off q;off p;on s 0 0;go;", 0, 6, 5);
        judged(river, b + "off q;off p;on r 0 0;go;", 0, 6, 5);
        String c = b + "off q;off p;on s 0 0;on r 0 1;go;";
        judged(river, c, 0, 8, 0);
        judged(river, c + "go;", 0, 8, 5);
        judged(river, c + "off r;go;", 0, 9, 5);
        judged(river, c + "off r;off s;go;", 0, 11, 0);
        judged(river, c + "off r;off s;go;go;", 0, 11, 5);
        judged(river, c + "off r;off s;go;on t 2 2;go;off t;", 0, -1, 0);
        // At the last STOP it does not END so long as one is DUE there.
        judged(river, c + "off r;off s;go;on t 2 2;go;", 0, 13, 0);
        judged(river, c + "off r;off s;go;on t 2 2;go;go;", 0, 13, 4);
    }

    // ---- DONE

    private static final String TWO = "quay a left;quay b left;leg 4 6 10 9 9;barge x a b 1;barge y a b 1;raft 2 2;knot 4;hold 3;turn 9;";

    private static void begun() {
        Due.says("DONE: begun at STOP 0 in a minute, with an empty RAFT");
        BargeRaft x = Calls.on(TWO);
        Calls.lay(x, 1, 2, 0, 0);
        judged(x, "off x;", 0, 0, 1);
        judged(x, "shift x 1 1;", 0, 0, 1);
        judged(x, "on x 0 1;on y 0 0;", 0, 2, 0, 4 + 3 * 0, 0);
        Due.due("then", x.judgedAt(0), 1);
        Due.due("then", x.judgedAt(1), 0);
        Due.says("Promise 22: judge leaves RAFT, WATER and PLAN");
        String kept = Looks.kept(x);
        String taken = Looks.taken(x);
        for (int minute : new int[] {0, 1439, -1, 1440}) {
            x.judge(minute);
            Due.same("kept", Looks.kept(x), kept);
        }
        Due.same("its taking is not told", Looks.taken(x), taken);
        judged(x, "on x 0 1;on y 0 0;", 5, 2, 0, 4);
        judged(x, "on x 0 1;on y 0 0;", 5, 2, 0, 4);
        Due.due("the fault stays", x.fault(), 0);
    }

    private static void actsDone() {
        Due.says("'off' TAKES, 'on' PUTS, 'shift' SHIFTS");
        String river = "quay a left;quay b left;leg 4 6 10 9 9;barge x a b 1;barge y a b 1;barge z a b 1;raft 3 2;knot 4;hold 3;turn 60;";
        judged(river, "on x 0 0;", 0, 1, 0, 0, 0, 0, 0);
        judged(river, "on x 0 0;on y 0 1;", 0, 2, 0, 4 + 3, 0, 0, 1);
        judged(river, "on y 0 1;on x 0 0;", 0, 2, 0, 4, 0, 0, 1);
        // z comes behind both: their knot is untied and tied, its own is tied.
        judged(river, "on y 0 1;on x 0 0;on z 0 2;", 0, 3, 0, 4 + 4 * 3 + 6, 0, 1, 1 + 2);
        judged(river, "on y 0 1;on x 0 0;on z 0 2;shift z 1 0;", 0, 4, 0, 22 + (4 * 3 + 6) + 4, 0, 1 + 2, 3 + 1 + 1);
        judged(river, "on y 0 1;on x 0 0;on z 0 2;go;off z;", 0, 5, 0, 22 + 10 + (4 * 3 + 6), 1, 1 + 2, 3 + 1);
        judged(river, "on y 0 1;on x 0 0;on z 0 2;go;off x;off y;off z;go;", 0, -1, 0, 22 + 10 + 4 + 4 + 10, 2, 1 + 2, 3);
        // A SHIFT is a TAKE, then a PUT where it is not any more: it is in nobody's way, its own neither.
        judged(river, "on x 0 0;shift x 0 1;", 0, 2, 0, 0, 0, 0, 0);
        judged(river, "on x 0 0;on y 0 1;shift x 0 2;", 0, 3, 0, 7 + 4 + (4 + 3), 0, 1, 2);
        judged(river, "on x 0 0;on y 0 1;shift x 1 2;", 0, 3, 0, 7 + 4, 0, 1, 1);
        judged(river, "on x 0 0;on y 0 1;shift y 1 0;", 0, 3, 0, 7 + (4 + 3) + 4, 0, 1, 2);
        // It may be shifted again, and at a STOP where it is not DUE.
        judged(river, "on x 0 0;shift x 0 1;shift x 0 0;shift x 0 1;", 0, 4, 0, 0, 0, 0, 0);
        judged("quay a left;quay b left;quay c left;leg 4 6 1 9 9;leg 4 6 1 9 9;barge x a c 1;", "on x 0 0;go;shift x 2 2;go;off x;go;go;", 0, -1, 0, 4, 4);
    }

    private static void go() {
        Due.says("'go': the LEG's MINUTES, and the lock's: times EACH, and twice 'knot' for each of these KNOTS");
        String barges = "barge x a b 1;barge y a b 1;barge z b a 1;raft 2 3;knot 7;hold 0;turn 0;";
        String locked = "quay a left;quay b left;leg 4 6 100 9 9 lock ";
        int on = 7;
        judged(locked + "2 13;" + barges, "on x 0 0;on y 1 0;go;", 0, 3, 0, on + 100 + 13, 1, 0, 1);
        judged(locked + "1 13;" + barges, "on x 0 0;on y 1 0;go;", 0, 3, 0, on + 100 + 2 * 13 + 2 * 7, 1, 0, 1);
        judged(locked + "1 99;" + barges, "on x 0 0;on y 1 0;go;off y;off x;go;", 0, 5, 5, 7 + 100 + 198 + 14 + 7, 1, 1, 1);
        judged(locked + "1 99;" + barges, "on x 0 0;on y 1 0;go;off y;off x;on z 2 1;go;", 0, 7, 0, 7 + 100 + 198 + 14 + 7 + 100 + 99, 2, 1, 1);
        judged("quay a left;quay b left;leg 4 6 999 9 9;", "go;go;", 0, -1, 0, 1998, 2, 0, 0);
        judged("quay a left;quay b left;leg 4 6 1 9 9 lock 9 99;", "go;go;", 0, -1, 0, 2 * 100, 2, 0, 0);
    }

    // ---- waiting

    private static final String NONE_ELSE = ";quay b left;leg 4 6 10 9 9;barge x a b 1;barge y a b 1;raft 2 2;";

    private static void waits(int opens, int closes, int minute, int wait) {
        judged("quay a left open " + opens + " " + closes + NONE_ELSE, "on x 0 0;", minute, 1, 0, wait, 0, 0, 0, wait);
    }

    private static void openMinutes() {
        Due.says("one waits, until the minute (its rest by 1440) is one from 'open' A on, below B");
        int[][] windows = {{0, 1}, {0, 2}, {0, 1439}, {0, 1440}, {1, 2}, {1, 1440}, {480, 1000}, {720, 721}, {1438, 1439}, {1438, 1440}, {1439, 1440}};
        for (int[] w : windows) {
            for (int minute : new int[] {0, 1, 2, 479, 480, 719, 720, 721, 999, 1000, 1001, 1437, 1438, 1439, w[0], w[1] - 1}) {
                int wait = minute < w[0] ? w[0] - minute : minute < w[1] ? 0 : 1440 - minute + w[0];
                waits(w[0], w[1], minute, wait);
            }
        }
        waits(480, 1000, 479, 1);
        waits(480, 1000, 480, 0);
        waits(480, 1000, 999, 0);
        waits(480, 1000, 1000, 920);
        waits(0, 1, 1, 1439);
        for (int minute : new int[] {0, 1, 720, 1439}) {
            judged("quay a left" + NONE_ELSE, "on x 0 0;", minute, 1, 0, 0, 0, 0, 0, 0);
        }
        Due.says("(its rest by 1440)");
        // Three LEGS of 999 minutes to QUAY d: of 2997 the rest is 117.
        for (int d = -1; d <= 1; d++) {
            String far = "quay a left;quay b left;quay c left;quay d left open " + (117 + d) + " " + (118 + d) + ";" + "leg 4 6 999 9 9;".repeat(3) + "barge x a d 1;";
            int wait = d < 0 ? 1439 : d;
            judged(far, "on x 0 0;go;go;go;off x;", 0, 5, 0, 2997 + wait, 3, 0, 0, wait);
            judged(far, "on x 0 0;go;go;go;off x;", 1439, 5, 0, 2997 + 1 + d, 3, 0, 0, 1 + d);
        }
    }

    private static void whoWaits() {
        Due.says("ahead of the first of these at a STOP (that is not WRONG) one waits");
        String river = "quay a left open 50 51" + NONE_ELSE.replace("b left", "b left open 0 60") + "knot 5;hold 3;turn 10;";
        judged(river, "on x 0 0;on y 0 1;", 0, 2, 0, 50 + 8, 0, 0, 1, 50);
        judged(river, "on x 0 0;on y 0 1;", 50, 2, 0, 8, 0, 0, 1, 0);
        judged(river, "on x 0 0;on y 0 1;", 51, 2, 0, 1439 + 8, 0, 0, 1, 1439);
        // WRONG: nobody waits, neither for that ACT nor ahead of it.
        judged(river, "off x;", 0, 0, 1, 0, 0, 0, 0, 0);
        judged(river, "on x 2 0;", 0, 0, 3, 0, 0, 0, 0, 0);
        judged(river, "on x 0 0;on x 0 1;", 0, 1, 1, 50, 0, 0, 0, 50);
        judged(river, "on x 0 0;on y 0 1;go;off x;", 0, 4, 0, 50 + 8 + 10 + (1440 - 68) + 5, 1, 1, 1, 50 + 1372);
        judged(river, "on x 0 0;on y 0 1;go;on x 0 0;", 0, 3, 1, 68, 1, 0, 1, 50);
        judged(river, "on x 0 0;on y 0 1;go;shift x 0 1;", 0, 3, 3, 68, 1, 0, 1, 50);
        // One that is shifted waits, too; the next one at that STOP does not.
        judged(river, "on x 0 0;on y 0 1;go;shift x 1 0;off y;", 0, 5, 0, 50 + 8 + 10 + 1372 + 5 + 0 + 0, 1, 1, 1, 1422);
        // Done past closing: the third one is not the first, whenever it is.
        String shut = "quay a left open 0 1;quay b left;leg 4 6 10 9 9;barge x a b 1;barge y a b 1;barge z a b 1;raft 1 3;knot 9;hold 0;turn 0;";
        judged(shut, "on x 0 0;on y 1 0;on z 2 0;", 0, 3, 0, 9 + 9, 0, 0, 2, 0);
        judged(shut, "on x 0 0;on y 1 0;on z 2 0;shift z 2 0;", 0, 3, 3, 9 + 9, 0, 0, 2, 0);
        judged(shut, "on x 0 0;on y 2 0;on z 1 0;go;off z;off x;off y;go;", 0, -1, 0, 18 + 10 + 18 + 10, 2, 2, 2, 0);
        Due.says("'go' does not wait");
        String three = "quay a left;quay b left open 700 701;quay c left;leg 4 6 1 9 9;leg 4 6 1 9 9;barge x a c 1;";
        judged(three, "on x 0 0;go;go;off x;go;go;", 0, -1, 0, 4, 4, 0, 0, 0);
        judged(three, "on x 0 0;go;shift x 0 1;go;off x;go;go;", 0, -1, 0, 703, 4, 0, 0, 699);
        Due.says("at a STOP: at the same QUAY on the way down one waits anew");
        String twice = "quay a left;quay b left open 700 701;quay c left;leg 4 6 1 9 9;leg 4 6 1 9 9;barge x a b 1;barge y b a 1;";
        judged(twice, "on x 0 0;go;off x;go;go;on y 0 0;go;off y;", 0, -1, 0, 700 + 1440 + 1, 4, 0, 0, 699 + 1438);
        // Each STOP's first one waits: at a, then at b, then at a again.
        String all = "quay a left open 100 101;quay b left open 200 201;leg 4 6 1 9 9;barge x a b 1;barge y b a 1;";
        judged(all, "on x 0 0;go;off x;on y 0 0;go;off y;", 0, -1, 0, 1440 + 100, 2, 0, 0, 1538);
    }

    // ---- WRONG

    private static final String FOUR = "quay a left;quay b left;quay c left;leg 2 2 10 9 4 lock 2 5;leg 2 2 10 9 4;"
        + "barge x a b 1;barge y a c 1;barge z b c 1;barge w a c 5;raft 3 3;knot 1;hold 0;turn 0;";

    private static String manyDown(int many) {
        StringBuilder s = new StringBuilder();
        for (int b = 0; b < many; b++) {
            s.append("barge ").append((char) ('p' + b)).append(" b a 1;");
        }
        return s.toString();
    }

    private static void wrongActs() {
        Due.says("1 off, shift: the BARGE is not on the RAFT");
        judged(FOUR, "off x;", 0, 0, 1);
        judged(FOUR, "off z;", 0, 0, 1);
        judged(FOUR, "shift x 0 0;", 0, 0, 1);
        judged(FOUR, "on x 0 0;off y;", 0, 1, 1);
        judged(FOUR, "on x 0 0;shift y 1 1;", 0, 1, 1);
        String b = "on x 0 0;on y 1 0;on w 1 1;shift w 2 0;shift w 0 1;go;";
        String narrow = FOUR.replace("9 4 lock 2 5", "9 9");
        judged(narrow, b + "off x;off x;", 0, 7, 1);
        judged(narrow, b + "off x;shift x 2 2;", 0, 7, 1);
        Due.says("1 on: it is not DUE there, or came already");
        judged(FOUR, "on z 0 0;", 0, 0, 1);
        judged(FOUR, "on x 0 0;on x 1 0;", 0, 1, 1);
        judged(FOUR, "on y 0 0;on y 1 0;", 0, 1, 1);
        judged(FOUR, "on x 0 0;on y 1 0;on w 2 0;on w 2 1;", 0, 3, 1);
        judged(FOUR, "on w 0 0;on y 1 0;on x 2 0;on w 2 1;", 0, 3, 1);
        judged("quay a left;quay b left;leg 4 6 1 9 9;" + manyDown(9), "go;on p 0 0;on q 0 1;on x 0 2;on x 1 0;", 0, 4, 1);
        judged(narrow, b + "off x;on x 0 0;", 0, 7, 1);
        judged(narrow, b + "on y 2 2;", 0, 6, 1);
        judged(narrow, b + "on z 0 2;", 0, 7, 0);
        Due.says("2 off: it is not DUE there");
        judged(FOUR, "on x 0 0;off x;", 0, 1, 2);
        judged(FOUR, "on y 0 0;off y;", 0, 1, 2);
        judged(narrow, b + "off y;", 0, 6, 2);
        judged(narrow, b + "off x;", 0, 7, 0);
        judged(narrow, b + "on z 0 2;off z;", 0, 7, 2);
        Due.says("3 on, shift: no such CELL, or one is there (its own, too)");
        judged(FOUR, "on x 2 2;", 0, 1, 0);
        judged(FOUR, "on x 3 2;", 0, 0, 3);
        judged(FOUR, "on x 2 3;", 0, 0, 3);
        judged(FOUR, "on x 5 3;", 0, 0, 3);
        judged(FOUR, "on x 0 3;", 0, 0, 3);
        judged(FOUR, "on x 2 2;shift x 0 3;", 0, 1, 3);
        judged(FOUR, "on x 2 2;shift x 3 0;", 0, 1, 3);
        judged(FOUR, "on x 2 2;shift x 2 2;", 0, 1, 3);
        judged(FOUR, "on x 2 2;shift x 0 0;", 0, 2, 0);
        judged(FOUR, "on x 2 2;shift x 0 0;on y 2 2;", 0, 3, 0);
        judged(FOUR, "on x 2 2;on y 2 2;", 0, 1, 3);
        judged(FOUR, "on x 2 2;on y 0 0;shift y 2 2;", 0, 2, 3);
        for (int broad = 1; broad <= 4; broad++) {
            for (int rows = 1; rows <= 6; rows++) {
                BargeRaft x = Calls.on("quay a left;quay b left;leg 4 6 1 9 9;barge x a b 1;raft " + broad + " " + rows + ";");
                for (int row = 0; row < 6; row++) {
                    for (int column = 0; column < 4; column++) {
                        boolean there = row < rows && column < broad;
                        judged(x, "on x " + row + " " + column + ";", 0, there ? 1 : 0, there ? 0 : 3);
                        Due.due("in its cell", there ? x.judgedAt(row * broad + column) : 0, 0);
                    }
                }
            }
        }
    }

    private static void wrongGo() {
        Due.says("4 go: the STOP is the last one");
        judged("quay a left;", "go;", 0, 0, 4);
        judged("quay a left;quay b left;leg 1 1 1 1 1;", "go;go;go;", 0, 2, 4);
        Due.says("6 go: the RAFT is not SOUND");
        String two = "quay a left;quay b left;leg 4 6 10 9 9;barge x a b 1;barge y a b 1 apart x;barge z a b 1;";
        judged(two, "on x 0 0;on y 0 1;on z 1 0;go;", 0, 3, 6);
        judged(two, "on x 0 0;on y 1 1;on z 1 0;go;", 0, 4, 0);
        judged(two, "on x 0 0;on y 2 2;on z 1 0;go;", 0, 3, 6);
        judged(two, "on x 0 0;on y 2 2;on z 1 0;shift y 2 0;go;", 0, 5, 0);
        Due.says("7 go: it does not FIT");
        String fit = "quay a left;quay b left;leg 1 2 10 5 3;barge x a b 3;barge y a b 3;barge z b a 4;";
        judged(fit, "on x 0 0;on y 1 0;go;", 0, 3, 0);
        judged(fit, "on x 0 0;on y 0 1;go;", 0, 2, 7);
        judged(fit, "on x 0 0;on y 1 0;go;off x;off y;on z 0 0;go;", 0, 6, 7);
        BargeRaft dry = Calls.on(fit);
        dry.water(1);
        judged(dry, "on x 0 0;on y 1 0;go;", 0, 2, 7);
        dry.water(0);
        judged(dry, "on x 0 0;on y 1 0;go;", 0, 3, 0);
        Due.says("8 go: it does not PASS");
        String pass = "quay a left;quay b left;leg 4 6 10 9 9 lock 1 5;barge x a b 1;barge y a b 1;barge z b a 1;barge w b a 1;";
        judged(pass, "on x 0 0;on y 0 1;go;", 0, 2, 8);
        judged(pass, "on x 0 0;on y 1 0;go;", 0, 3, 0);
        judged(pass, "on x 0 0;on y 1 0;go;off x;off y;on z 1 1;on w 1 2;go;", 0, 7, 8);
        judged(pass.replace("lock 1", "lock 2"), "on x 0 0;on y 0 1;go;", 0, 3, 0);
    }

    private static void leastWrong() {
        Due.says("An ACT is WRONG, the least");
        judged(FOUR, "shift x 5 3;", 0, 0, 1);
        judged(FOUR, "on z 5 3;", 0, 0, 1);
        judged(FOUR, "on x 0 0;on x 0 0;", 0, 1, 1);
        judged(FOUR, "on x 0 0;on z 0 0;", 0, 1, 1);
        judged(FOUR, "on x 0 0;shift y 0 0;", 0, 1, 1);
        // 4 ahead of 5: at the last STOP one is DUE to come off.
        judged("quay a left;quay b left;leg 1 1 1 1 1;barge x b a 1;", "go;on x 0 0;go;go;", 0, 3, 4);
        // 5 ahead of 6, 7 and 8: two loose ones, too deep, on a LEG with a narrow lock.
        String shut = "quay a left;quay b left;leg 1 1 1 1 1 lock 1 1;barge x a b 2;barge y a b 2;barge z a b 2;";
        judged(shut, "on x 0 0;on y 0 2;go;", 0, 2, 5);
        // 6 ahead of 7 and 8.
        judged(shut, "on x 0 0;on y 0 2;on z 2 2;go;", 0, 3, 6);
        // 7 ahead of 8.
        judged(shut, "on x 0 0;on y 0 2;on z 0 1;go;", 0, 3, 7);
        // 8 alone.
        judged(shut.replace("leg 1 1 1 1 1", "leg 3 1 1 2 2"), "on x 0 0;on y 0 2;on z 0 1;go;", 0, 3, 8);
        judged(shut.replace("leg 1 1 1 1 1 lock 1", "leg 3 1 1 2 2 lock 3"), "on x 0 0;on y 0 2;on z 0 1;go;", 0, 4, 0);
        Due.says("the first ACT that is WRONG");
        judged(FOUR, "go;off x;on z 0 0;", 0, 0, 5);
        judged(FOUR, "on x 0 0;go;off x;on z 0 0;", 0, 1, 5);
        judged(FOUR, "on x 0 0;on z 5 3;go;", 0, 1, 1);
        judged(FOUR, "on x 0 0;on y 1 0;on w 1 1;shift x 0 0;off x;", 0, 3, 3);
    }

    /** A PLAN of sixty ACTS, of which none is WRONG. */
    private static String sixty() {
        StringBuilder plan = new StringBuilder();
        for (int b = 0; b < 9; b++) {
            plan.append("on ").append((char) ('a' + b)).append(' ').append(b / 3).append(' ').append(b % 3).append(';');
        }
        plan.append("go;");
        for (int b = 8; b > 0; b--) {
            plan.append("off ").append((char) ('a' + b)).append(';');
        }
        return plan + "shift a 2 2;shift a 0 0;".repeat(14) + "off a;" + "go;".repeat(13);
    }

    private static void mostActs() {
        Due.says("Promise 22: the first ACT that is WRONG; how many ACTS, if it does not END: of sixty");
        StringBuilder river = new StringBuilder(way(8).replace("leg 1 1", "leg 3 3"));
        for (int b = 0; b < 9; b++) {
            river.append("barge ").append((char) ('a' + b)).append(" qa qb 1;");
        }
        BargeRaft x = Calls.on(river.toString());
        String plan = sixty();
        judged(x, plan, 0, -1, 0);
        Due.due("sixty", x.count(5), 60);
        Due.due("the last stop", x.judged(2), 14);
        judged(x, plan.replaceFirst("shift", "shift a 1 1;shift").replaceFirst("go;$", ""), 0, 60, 0);
        Due.due("one less", x.judged(2), 13);
        judged(x, plan.replaceFirst("go;$", "off a;"), 0, 59, 1);
        Due.due("one less", x.judged(2), 13);
        judged(x, plan.replaceFirst("go;$", ""), 0, 59, 0);
        judged(x, "go;".repeat(60), 0, 0, 5);
        Calls.river(x, way(8));
        judged(x, "go;".repeat(60), 0, 14, 4);
    }

    // ---- the END, and what is told of it

    private static void ends() {
        Due.says("A PLAN that is not WRONG ENDS, if it comes to the last STOP and nobody is DUE there any more");
        judged("quay a left;", "", 0, -1, 0, 0, 0, 0, 0, 0);
        judged("quay a left open 5 6;", "", 0, -1, 0, 0, 0, 0, 0, 0);
        String river = "quay a left;quay b left;leg 4 6 1 9 9;barge x b a 1;barge y b a 1;knot 1;hold 0;turn 0;";
        judged(river, "", 0, 0, 0);
        judged(river, "go;on x 0 0;on y 1 0;", 0, 3, 0, 2, 1);
        judged(river, "go;on x 0 0;on y 1 0;go;", 0, 4, 0, 3, 2);
        judged(river, "go;on x 0 0;on y 1 0;go;off y;", 0, 5, 0, 4, 2);
        judged(river, "go;on x 0 0;on y 1 0;go;off y;off x;", 0, -1, 0, 4, 2);
        judged(river, "go;on x 0 0;on y 1 0;go;off y;shift x 0 1;off x;", 0, -1, 0, 4, 2);
        judged(river, "go;on x 0 0;on y 1 0;go;off y;off x;go;", 0, 6, 4, 4, 2);
        judged(river, "go;on x 0 0;on y 1 0;go;off y;off x;off x;", 0, 6, 1, 4, 2);
        Due.says("Promise 22: how many ACTS, if it does not END");
        judged(river, "go;", 0, 1, 0, 1, 1);
        BargeRaft none = Calls.on(river);
        Due.due("no plan told", none.judge(0), 0);
        Due.due("it is not wrong", none.judged(0), 0);
    }

    private static void minutes() {
        Due.says("Promise 22: begun in a minute (0 to 1439); -2: no such minute, or no QUAY");
        BargeRaft x = Calls.on(TWO);
        judged(x, "on x 0 0;on y 1 1;shift y 1 0;", 1439, 3, 0, 4, 0, 0, 1, 0);
        judged(x, "on x 0 0;on y 1 1;shift y 1 0;", 0, 3, 0, 4, 0, 0, 1, 0);
        String told = Looks.told(x);
        for (int minute : new int[] {-1, 1440, 1441, 2880, Integer.MIN_VALUE, Integer.MAX_VALUE}) {
            Due.due("judge " + minute, x.judge(minute), -2);
            Due.same("the latest stays", Looks.told(x), told);
        }
        BargeRaft none = new BargeRaft();
        Due.due("no quay", none.judge(0), -2);
        Calls.plan(none, "go;");
        Due.due("no quay, a plan", none.judge(0), -2);
        Due.due("still ahead of any", none.judged(0), -1);
        Due.due("still ahead of any", none.judgedAt(0), -1);
        // A river without quays behind one with: what was judged stays.
        Calls.river(x, "raft 2 2;");
        Due.due("no quay any more", x.judge(0), -2);
        Due.same("the latest stays", Looks.told(x), told);
    }

    private static void twice() {
        Due.says("DONE: begun at STOP 0, with an empty RAFT, nobody having come or gone");
        BargeRaft x = Calls.on(TWO);
        String whole = "on x 0 0;on y 1 0;go;off y;off x;go;";
        int[] told = {0, 4 + 10 + 4 + 10, 2, 1, 1, 0};
        for (int times = 0; times < 3; times++) {
            judged(x, whole, 0, -1, told);
            judged(x, "on x 0 0;on y 1 0;go;go;", 0, 3, 5, 14, 1, 0, 1, 0);
            judged(x, "on x 0 0;on y 1 0;go;off y;go;", 0, 4, 5, 18, 1, 1, 1, 0);
            judged(x, "", 0, 0, 0, 0, 0, 0, 0, 0);
            judged(x, "go;", 0, 0, 5, 0, 0, 0, 0, 0);
            judged(x, "off x;", 0, 0, 1, 0, 0, 0, 0, 0);
        }
        BargeRaft open = Calls.on("quay a left open 7 9;quay b left;leg 4 6 10 9 9;barge x a b 1;");
        for (int minute : new int[] {0, 7, 9, 0}) {
            int wait = minute == 7 ? 0 : minute == 9 ? 1438 : 7;
            judged(open, "on x 0 0;", minute, 1, 0, wait, 0, 0, 0, wait);
        }
        // The largest GRID, from its first CELL to its last one.
        BargeRaft large = Calls.on("quay a left;quay b left;leg 1 6 10 9 9 lock 1 7;barge x a b 1;barge y b a 1;raft 4 6;");
        judged(large, "on x 0 0;shift x 5 3;go;off x;on y 5 0;shift y 0 3;go;off y;", 0, -1, 0, 10 + 7 + 10 + 7, 2, 0, 0, 0);
    }

    private static void told() {
        Due.says("Promise 23: 0 why it was WRONG (1 to 8; 0: it was not), 1 minutes till then, 2 the STOP, 3 KNOTS UNTIED, 4 TIED in all, 5 minutes waited");
        String river = "quay a left open 20 30;quay b left;leg 4 6 10 9 9 lock 1 5;barge x a b 1;barge y a b 1;raft 2 2;knot 4;hold 3;turn 60;";
        BargeRaft x = Calls.on(river);
        String plan = "on x 0 0;on y 1 0;go;off y;off x;go;";
        int[][] till = {{20, 0, 0, 0, 20}, {24, 0, 0, 1, 20}, {24 + 10 + 10 + 8, 1, 0, 1, 20}, {52 + 4, 1, 1, 1, 20}, {56, 1, 1, 1, 20}, {56 + 15, 2, 1, 1, 20}};
        int at = 0;
        for (int i = 0; i < till.length; i++) {
            at = plan.indexOf(';', at) + 1;
            judged(x, plan.substring(0, at), 0, i == 5 ? -1 : i + 1, 0, till[i][0], till[i][1], till[i][2], till[i][3], till[i][4]);
            // Likewise with one that is WRONG behind it: till then.
            judged(x, plan.substring(0, at) + "on x 5 3;", 0, i + 1, 1, till[i][0], till[i][1], till[i][2], till[i][3], till[i][4]);
        }
        Due.says("Promise 23: NONE for another what");
        for (int w : new int[] {-1, 6, 7, 32, Integer.MIN_VALUE, Integer.MAX_VALUE}) {
            Due.due("judged " + w, x.judged(w), -1);
        }
        judged(x, "on x 0 0;", 19, 1, 0, 1, 0, 0, 0, 1);
        judged(x, "", 19, 0, 0, 0, 0, 0, 0, 0);
    }

    private static void cellsThen() {
        Due.says("Promise 24: What was in CELL k then; NONE: nothing, no such CELL of that GRID");
        BargeRaft x = Calls.on("quay a left;quay b left;leg 4 6 1 9 9;barge x a b 1;barge y a b 1;raft 4 6;");
        Calls.lay(x, new int[] {0, 0, 1, 0, 0, 0, 0, 0, 0, 0, 0, 0, 0, 0, 0, 0, 0, 0, 0, 0, 0, 0, 0, 2});
        judged(x, "on x 0 0;on y 5 3;", 0, 2);
        for (int k = -1; k <= 24; k++) {
            Due.due("judgedAt " + k, x.judgedAt(k), k == 0 ? 0 : k == 23 ? 1 : -1);
        }
        for (int k : new int[] {25, 32, 1000, Integer.MIN_VALUE, Integer.MAX_VALUE}) {
            Due.due("judgedAt " + k, x.judgedAt(k), -1);
        }
        // The ACT that is WRONG has changed nothing; the RAFT that is laid is another one.
        judged(x, "on x 0 0;on y 5 3;shift x 5 3;", 0, 2, 3);
        Due.due("where it was", x.judgedAt(0), 0);
        Due.due("the raft", x.cell(2), 0);
        Calls.plan(x, "");
        Due.due("a plan that is not judged leaves it", x.judgedAt(23), 1);
        // A GRID that comes later does not count, neither a smaller nor a larger one.
        Calls.river(x, "quay a left;quay b left;leg 4 6 1 9 9;barge x a b 1;barge y a b 1;raft 1 1;");
        Due.due("cell 23 of that grid", x.judgedAt(23), 1);
        judged(x, "on x 0 0;", 0, 1);
        Due.due("cell 0", x.judgedAt(0), 0);
        for (int k = 1; k < 24; k++) {
            Due.due("no cell " + k + " of that grid", x.judgedAt(k), -1);
        }
        Calls.river(x, "quay a left;raft 4 6;");
        Due.due("cell 0 of that grid", x.judgedAt(0), 0);
        Due.due("judge of the new one", x.judge(0), -1);
        Due.due("nothing", x.judgedAt(0), -1);
        // All that came off are gone.
        judged(Calls.on(TWO), "on x 0 0;on y 1 0;go;off y;off x;go;", 0, -1);
        BargeRaft y = Calls.on(TWO);
        judged(y, "on x 0 0;on y 1 0;go;off y;off x;go;", 0, -1);
        for (int k = 0; k < 4; k++) {
            Due.due("nobody", y.judgedAt(k), -1);
        }
    }

    private static void ofThen() {
        Due.says("A PLAN is of the RIVER of then; restored with it, it is judged as then");
        BargeRaft x = Calls.on(TWO);
        judged(x, "on x 0 0;on y 1 0;go;off y;off x;go;", 0, -1, 0, 28, 2);
        x.image(0);
        Calls.river(x, TWO.replace("knot 4", "knot 9").replace("barge x a b 1;barge y a b 1", "barge y a b 1;barge x a b 1"));
        Due.due("the new one has no plan", x.judge(0), 0);
        judged(x, "on x 0 0;", 0, 1);
        Due.due("x is the second one", x.judgedAt(0), 1);
        x.restore(0);
        Due.due("restored", x.judge(0), -1);
        Due.due("its minutes", x.judged(1), 28);
        x.water(9);
        Due.due("water that fell later", x.judge(0), 2);
        x.restore(0);
        Due.due("water as kept", x.judge(0), -1);
    }

    public static void main(String[] args) {
        stops();
        quayOfStop();
        wayUpAndDown();
        due();
        begun();
        actsDone();
        go();
        openMinutes();
        whoWaits();
        wrongActs();
        wrongGo();
        leastWrong();
        mostActs();
        ends();
        minutes();
        twice();
        told();
        cellsThen();
        ofThen();
        Due.close("PlanEdgesTest");
    }
}
