/** Promises 20 to 24, each by itself, with answers worked out by hand. */
public final class PlanPromisesTest {
    private static final String RIVER =
        "quay a both;quay b left open 480 1000;quay c right;"
        + "leg 2 3 60 30 20;leg 2 2 30 25 10 lock 2 15;"
        + "barge x a b 10;barge y a c 20;barge z c a 5 apart y;"
        + "raft 2 3;knot 4;hold 2;turn 7;";

    private static void planFault(String text, int place, int kind) {
        BargeRaft x = Calls.on(RIVER);
        Calls.plan(x, "go;off x;");
        Due.due("plan " + text, Calls.plan(x, text), -1 - place);
        Due.due("fault of " + text, x.fault(), kind);
        Due.due("acts that stay, " + text, x.count(5), 2);
        Due.due("act that stays, " + text, x.act(0, 0), 3);
        Due.due("act that stays, " + text, x.act(1, 1), 0);
        Due.due("tape behind " + text, x.count(7), 0);
    }

    private static void promise20() {
        BargeRaft x = Calls.on(RIVER);
        Due.due("acts", Calls.plan(x, " on x 5 3 ;\nshift x 0 0;off x;go;"), 4);
        Due.due("tape", x.count(7), 0);
        Due.due("acts told", x.count(5), 4);
        Due.due("no acts", Calls.plan(x, ""), 0);
        Due.due("sixty", Calls.plan(x, "go;".repeat(60)), 60);
        planFault("go;".repeat(61), 180, 4);
        planFault("go;".repeat(60) + "x;", 180, 1);
        planFault("go;".repeat(60) + "quay;", 180, 1);
        Due.due("600 bytes", Calls.plan(x, " ".repeat(597) + "go;"), 1);
        planFault(" ".repeat(597) + "go; ", 600, 1);
        planFault(" ".repeat(598) + "go;", 600, 1);
        planFault(" ".repeat(598) + "gos;", 598, 1);
        planFault("off", 3, 1);
        planFault("go ;go", 6, 1);
        planFault("go 1;", 3, 1);
        planFault("off x 1;", 6, 1);
        planFault("off go;", 4, 1);
        planFault("off 1;", 4, 1);
        planFault("on x 1;", 6, 1);
        planFault("on x y 1;", 5, 1);
        planFault("quay a left;", 0, 1);
        planFault("go,", 2, 1);
        planFault("on x 6 0;", 5, 2);
        planFault("on x 0 4;", 7, 2);
        planFault("shift x 6 0;", 8, 2);
        planFault("shift x 0 4;", 10, 2);
        planFault("off w;", 4, 3);
        planFault("off a;", 4, 3);
        planFault("shift b 0 0;", 6, 3);
        Calls.river(x, "quay a both;");
        Due.due("a new river: no plan", x.count(5), 0);
        Due.due("names of the river of then", Calls.plan(x, "off x;"), -5);
    }

    private static void promise21() {
        BargeRaft x = Calls.on(RIVER);
        Calls.plan(x, "off z;on y 4 3;shift x 2 1;go;");
        int[][] acts = {{0, 2, -1, -1}, {1, 1, 4, 3}, {2, 0, 2, 1}, {3, -1, -1, -1}};
        for (int i = 0; i < 4; i++) {
            for (int w = 0; w < 4; w++) {
                Due.due("act " + i + " " + w, x.act(i, w), acts[i][w]);
            }
        }
        Due.missing("act 4", () -> x.act(4, 0));
        Due.missing("act -1", () -> x.act(-1, 0));
        Due.missing("what 4", () -> x.act(0, 4));
        Due.missing("what -1", () -> x.act(0, -1));
        Calls.plan(x, "go;");
        Due.missing("act of an earlier plan", () -> x.act(1, 0));
    }

    private static void judged(BargeRaft x, String text, int minute, int answer, int... told) {
        Calls.plan(x, text);
        Due.due("judge " + text, x.judge(minute), answer);
        for (int w = 0; w < told.length; w++) {
            Due.due("judged " + w + " of " + text, x.judged(w), told[w]);
        }
    }

    private static void promise22and23() {
        BargeRaft x = Calls.on(RIVER);
        Due.due("ahead of any", x.judged(0), -1);
        Due.due("minute -1", x.judge(-1), -2);
        Due.due("minute 1440", x.judge(1440), -2);
        Due.due("still ahead of any", x.judged(0), -1);
        Due.due("no plan does not end", x.judge(0), 0);
        Due.due("it is not wrong", x.judged(0), 0);
        String whole = "on x 0 0;on y 1 0;go;off x;go;off y;on z 0 1;go;go;off z;";
        judged(x, whole, 0, -1, 0, 634, 4, 1, 1, 416);
        judged(x, whole, 500, -1, 0, 218, 4, 1, 1, 0);
        // At 935 one comes to b at 999, which is open still; at 936 one waits till the next day's 480.
        judged(x, whole, 935, -1, 0, 218, 4, 1, 1, 0);
        judged(x, whole, 936, -1, 0, 1138, 4, 1, 1, 920);
        judged(x, whole, 416, -1, 0, 218, 4, 1, 1, 0);
        judged(x, whole, 415, -1, 0, 219, 4, 1, 1, 1);
        // Nothing is done at b, so nobody waits there; x is wrong at c with the raft of then.
        judged(x, "on x 0 0;on y 1 0;go;go;", 0, 3, 5, 64, 1, 0, 1, 0);
        judged(x, "on x 0 0;on y 1 0;go;off y;", 0, 3, 2, 64, 1, 0, 1, 0);
        judged(x, "on x 0 0;on y 1 0;go;off y;off x;", 0, 3, 2);
        judged(x, "go;", 0, 0, 5);
        judged(x, "on x 0 0;go;", 0, 1, 5);
        judged(x, "off x;", 0, 0, 1);
        judged(x, "shift y 0 0;", 0, 0, 1);
        judged(x, "on z 0 0;", 0, 0, 1);
        judged(x, "on z 5 3;", 0, 0, 1);
        judged(x, "on x 0 0;on x 0 1;", 0, 1, 1);
        judged(x, "on x 0 0;off x;", 0, 1, 2);
        judged(x, "on x 0 2;", 0, 0, 3);
        judged(x, "on x 3 0;", 0, 0, 3);
        judged(x, "on x 0 0;on y 0 0;", 0, 1, 3);
        judged(x, "on x 0 0;shift x 0 0;", 0, 1, 3);
        judged(x, "on x 0 0;shift x 3 0;", 0, 1, 3);
        judged(x, whole + "go;", 0, 10, 4, 634, 4);
        judged(x, "on x 0 0;on y 1 1;go;", 0, 2, 6, 0, 0);
        judged(x, "on x 0 0;on y 1 0;go;off x;shift y 0 0;go;off y;go;", 500, 7, 5, 113, 2);
        // Loose barges are shifted for nothing, only the knot that comes is tied.
        judged(x, "on x 0 0;on y 2 0;shift x 1 0;", 0, 3, 0, 4, 0, 0, 1, 0);
        judged(x, "on x 0 0;on y 1 0;shift y 0 1;", 0, 3, 0, 12, 0, 1, 2, 0);
        Due.due("what 6", x.judged(6), -1);
        Due.due("what -1", x.judged(-1), -1);
        x.judge(1440);
        Due.due("the latest that was not -2", x.judged(1), 12);
        judged(x, "off x;", 0, 0, 1, 0, 0);
        judged(x, "", 0, 0, 0, 0, 0, 0, 0, 0);
        BargeRaft none = new BargeRaft();
        Due.due("no quay", none.judge(0), -2);
        BargeRaft one = Calls.on("quay a left;");
        Due.due("one quay: it ends there", one.judge(0), -1);
        judged(one, "go;", 0, 0, 4, 0, 0);
    }

    private static void rightsAndLocks() {
        // A leg where nothing fits, one where a lock takes one at a time, both ways.
        String river = "quay a right open 0 1;quay b left;leg 2 2 10 9 9 lock 1 3;barge x a b 1;barge y a b 1;raft 2 2;knot 1;hold 5;turn 2;";
        BargeRaft x = Calls.on(river);
        judged(x, "on x 0 0;on y 0 1;go;", 0, 2, 8, 1);
        judged(x, "on x 0 0;on y 1 0;go;off x;off y;go;", 0, -1, 0, 1 + 10 + 6 + 2 + 1 + 10 + 3, 2, 1, 1, 0);
        // Who begins in the open minute works on past it; x goes by the back, for y is in its way.
        judged(x, "on x 0 0;on y 0 1;shift x 1 0;shift x 1 1;", 1, 4, 0, 1439 + 1 + 3 + 1, 0, 1, 2, 1439);
        x.water(8);
        judged(x, "on x 0 0;on y 1 0;go;", 0, 3, 0, 1 + 10 + 6 + 2, 1);
        x.water(9);
        judged(x, "on x 0 0;on y 1 0;go;", 0, 2, 7, 1, 0);
        // The back needs a turn, which is less than to hold y on the right way; so to put x, too.
        BargeRaft y = Calls.on(river);
        judged(y, "on x 0 0;on y 0 1;shift x 1 0;", 0, 3, 0, 1 + 3 + 0, 0, 1, 1, 0);
        judged(y, "on y 0 1;on x 0 0;", 0, 2, 0, 3, 0, 0, 1, 0);
    }

    /** Four in two rows: who is taken from behind others unties their knots and ties them again. */
    private static void blockersTied() {
        BargeRaft x = Calls.on("quay a left;quay b right;leg 4 6 10 9 9;barge p a b 1;barge q a b 1;barge r a b 1;barge s a b 1;"
            + "raft 2 2;knot 1;hold 1;turn 60;");
        String four = "on q 0 1;on s 1 1;on p 0 0;on r 1 0;";
        judged(x, four, 0, 4, 0, 1 + 1 + 2, 0, 0, 4, 0);
        // q by the left way: its 2 knots and p's other one, that is tied again; p is held. Then back again.
        Calls.lay(x, 1, 2, 3, 4);
        Due.due("q is behind p", x.taking(1, 0), 3 + 1 + 1);
        // Shifted where p was it would be in nobody's way: so q goes to another cell there is none of.
        judged(x, four + "shift q 0 0;", 0, 4, 3, 4, 0, 0, 4, 0);
        // At b p comes off by the right way, q in the way: untied 3, tied 1.
        judged(x, four + "go;off p;", 0, 6, 0, 4 + 10 + 3 + 1 + 1, 1, 3, 4 + 1, 0);
        // To put q behind p: untied is p's knot with r, tied are that one and both of q.
        judged(x, "on s 1 1;on p 0 0;on r 1 0;on q 0 1;", 0, 4, 0, 0 + 0 + 2 + (1 + 3 + 1), 0, 1, 2 + 3, 0);
    }

    private static void upAndDown() {
        // Down barges: on at the stop on the way down; an empty raft passes a lock once.
        BargeRaft x = Calls.on("quay a left;quay b left;quay c left;leg 1 1 10 9 9 lock 1 3;leg 1 1 20 9 9;barge x b a 1;raft 1 1;");
        judged(x, "go;on x 0 0;", 0, 1, 1, 13, 1);
        judged(x, "go;go;go;on x 0 0;go;off x;", 0, -1, 0, 13 + 20 + 20 + 13, 4, 0, 0, 0);
        judged(x, "go;go;go;on x 0 0;go;", 0, 5, 0, 66, 4);
        judged(x, "go;go;go;go;", 0, 3, 5, 53, 3);
        judged(x, "go;go;go;on x 0 0;off x;", 0, 4, 2);
        judged(x, "go;go;go;", 0, 3, 0, 53, 3);
    }

    private static void promise24() {
        BargeRaft x = Calls.on(RIVER);
        Due.due("ahead of any", x.judgedAt(0), -1);
        Calls.lay(x, 3, 0, 0, 0, 0, 0);
        Calls.plan(x, "on x 0 0;on y 1 0;go;off y;");
        x.judge(0);
        int[] cells = {0, -1, 1, -1, -1, -1, -1};
        for (int k = 0; k < cells.length; k++) {
            Due.due("judgedAt " + k, x.judgedAt(k), cells[k]);
        }
        Due.due("judgedAt -1", x.judgedAt(-1), -1);
        Due.due("judgedAt 24", x.judgedAt(24), -1);
        Due.due("the raft stays", x.cell(0), 2);
        Calls.river(x, "raft 1 1;");
        Due.due("that grid, not the one of now", x.judgedAt(2), 1);
        Due.due("judged stays", x.judged(0), 2);
    }

    public static void main(String[] args) {
        promise20();
        promise21();
        promise22and23();
        rightsAndLocks();
        blockersTied();
        upAndDown();
        promise24();
        Due.close("PlanPromisesTest");
    }
}
