/** Promises 25 to 33, each by itself, with answers worked out by hand. */
public final class SearchPromisesTest {
    private static final String RIVER =
        "quay a both;quay b left open 480 1000;quay c right;"
        + "leg 2 3 60 30 20;leg 2 2 30 25 10 lock 2 15;"
        + "barge x a b 10;barge y a c 20;barge z c a 5 apart y;"
        + "raft 2 3;knot 4;hold 2;turn 7;";

    private static void seated(String what, BargeRaft x, int[] order, int... cells) {
        Due.due(what, Calls.first(x, order), 1);
        Due.due("tape behind " + what, x.count(7), 0);
        for (int k = 0; k < cells.length; k++) {
            Due.due(what + ", cell " + k, x.cell(k), cells[k]);
        }
    }

    private static void unseated(String what, BargeRaft x, int answer, int... order) {
        Due.due("some raft ahead of " + what, Calls.lay(x, 1, 0, 0, 0), 1);
        Due.due(what, Calls.first(x, order), answer);
        Due.due("tape behind " + what, x.count(7), 0);
        Due.due("the raft stays, " + what, x.cell(0), 0);
        Due.due("the raft stays, " + what, x.knots(), 0);
    }

    private static int[] order(int... barges) {
        return barges;
    }

    private static void promise25() {
        String legs = "leg 2 2 1 9 9;leg 2 2 1 9 9;";
        String three = "barge x a b 1;barge y a c 1;barge z a c 1;raft 2 2;";
        BargeRaft x = Calls.on("quay a both;quay b right;quay c both;" + legs + three);
        // With z behind x both of x's ways at b are blocked.
        seated("x y z at a right quay", x, order(0, 1, 2), 0, 1, -1, 2);
        seated("y x z at a right quay", x, order(1, 0, 2), 1, 0, 2, -1);
        seated("one alone", x, order(2), 2, -1, -1, -1);
        // At a left quay x comes off, but y and z would hang together no more.
        BargeRaft left = Calls.on("quay a both;quay b left;quay c both;" + legs + three);
        seated("x y z at a left quay", left, order(0, 1, 2), 0, 1, -1, 2);
        BargeRaft narrow = Calls.on("quay a both;quay b left;quay c both;leg 1 2 1 9 9;leg 2 2 1 9 9;" + three);
        unseated("three on a leg for two", narrow, 0, 0, 1, 2);
        seated("two on it", narrow, order(0, 1), 0, -1, 1, -1);
        BargeRaft shallow = Calls.on("quay a both;quay b left;quay c both;leg 2 2 1 9 9;leg 2 2 1 9 1;" + three);
        seated("at the edge", shallow, order(1, 2), 1, 2, -1, -1);
        shallow.water(1);
        seated("not as broad as the second leg, less water", shallow, order(1, 2), 1, -1, 2, -1);
        shallow.water(9);
        unseated("too deep", shallow, 0, 1);
        BargeRaft lock = Calls.on("quay a both;quay b left;quay c both;leg 2 2 1 9 9;leg 2 2 1 9 9 lock 1 5;" + three);
        seated("the second leg's lock takes one", lock, order(1, 2), 1, -1, 2, -1);
        seated("who is off there does not count", lock, order(0, 2), 0, 2, -1, -1);
        BargeRaft apart = Calls.on("quay a both;quay b left;quay c both;" + legs
            + "barge x a b 1;barge y a c 1 apart x;barge z a c 1;barge w b c 1;raft 2 2;");
        unseated("two that are apart", apart, 0, 0, 1);
        seated("one between them", apart, order(0, 1, 2), 0, 2, -1, 1);
    }

    private static void promise25Wrong() {
        BargeRaft x = Calls.on("quay a both;quay b left;quay c both;leg 2 2 1 9 9;leg 2 2 1 9 9;"
            + "barge p a b 1;barge q a b 1;barge r a b 1;barge s a b 1;barge t a b 1;barge u a b 1;barge v a b 1;"
            + "barge w b c 1;raft 2 2;");
        unseated("none told", x, -1);
        unseated("one twice", x, -1, 0, 0);
        unseated("no such barge", x, -1, 8);
        unseated("byte 255", x, -1, 255);
        unseated("not from quay 0", x, -1, 7);
        unseated("seven", x, -1, 0, 1, 2, 3, 4, 5, 6);
        unseated("more than cells", x, 0, 0, 1, 2, 3, 4);
        seated("as many as cells", x, order(3, 2, 1, 0), 3, 2, 1, 0);
        BargeRaft ten = Calls.on("quay a both;quay b left;leg 4 6 1 9 9;barge x a b 1;raft 2 5;");
        Due.due("ten cells", Calls.first(ten, 0), -1);
        BargeRaft nine = Calls.on("quay a both;quay b left;leg 4 6 1 9 9;barge x a b 1;");
        Due.due("nine cells", Calls.first(nine, 0), 1);
        Due.due("no river", Calls.first(new BargeRaft(), 0), -1);
        String full = "quay a both;quay b right;quay c both;leg 2 3 1 9 9;leg 2 3 1 9 9;"
            + "barge p a b 1;barge q a b 1;barge r a c 1;barge s a c 1;barge t a c 1;barge u a c 1;raft 2 3;";
        // q comes off by the right, then p through q's cell.
        seated("six in six cells", Calls.on(full), order(0, 1, 2, 3, 4, 5), 0, 1, 2, 3, 4, 5);
        // With q staying aboard p must lie on the right.
        seated("one of six", Calls.on(full.replace("q a b", "q a c")), order(0, 1, 2, 3, 4, 5), 1, 0, 2, 3, 4, 5);
    }

    private static void promise26() {
        BargeRaft x = Calls.on(RIVER);
        Due.due("best 0", x.best(0), 634);
        Due.due("best 416", x.best(416), 218);
        Due.due("best 415", x.best(415), 219);
        Due.due("best 1439", x.best(1439), 1 + 634);
        Due.due("minute -1", x.best(-1), -2);
        Due.due("minute 1440", x.best(1440), -2);
        x.water(6);
        Due.due("too deep", x.best(500), -1);
        Due.due("no quay", new BargeRaft().best(0), -2);
        Due.due("no quay, a small raft", Calls.on("raft 2 2;").best(0), -2);
        // Only x may lie in the middle. At the left quays it goes z, x, y on, and y, x, z off.
        Due.due("in the order that has no blockers", Calls.on("quay a left;quay b left;leg 3 1 10 9 1;"
            + "barge y a b 1;barge z a b 1;barge x a b 5;raft 3 1;knot 1;hold 20;turn 30;").best(0), 2 + 10 + 2 + 10);
        BargeRaft one = Calls.on("quay a left open 5 6;raft 2 3;");
        Due.due("one quay", one.best(0), 0);
        Due.due("nine cells", Calls.on("quay a left;").best(0), -2);
        Due.due("eight cells", Calls.on("quay a left;raft 2 4;").best(0), -2);
        String empty = "quay a left open 5 6;quay b left open 5 6;leg 1 1 100 0 0 lock 1 7;raft 1 6;";
        Due.due("no barges: an empty raft passes once, nobody waits", Calls.on(empty).best(0), 214);
        String four = empty.replace("0 0", "9 9") + "barge p a b 1;barge q a b 1;barge r a b 1;barge s a b 1;";
        Due.due("four barges on a leg for one", Calls.on(four).best(0), -1);
        Due.due("five barges", Calls.on(four + "barge t a b 1;").best(0), -2);
        // In a row on the first leg, in a column on the second: a shift is needed, 2 knots of 4.
        String turn = "quay a both;quay b both;quay c both;leg 2 1 10 9 9;leg 1 2 10 9 9;"
            + "barge x a c 1;barge y a c 1;raft 2 2;knot 4;";
        Due.due("a shift on the way", Calls.on(turn).best(0), 4 + 10 + 8 + 10 + 4 + 20);
        // The shift has to wait for b, which is open from 100 on.
        Due.due("a shift that waits", Calls.on(turn.replace("quay b both", "quay b both open 100 200")).best(0),
            100 + 8 + 10 + 4 + 20);
    }

    private static void promise27and28() {
        BargeRaft x = Calls.on(RIVER);
        Due.due("ahead of any", x.hiredBy(), -1);
        Due.due("minute 1440", x.hired(1440), -2);
        Due.due("still ahead of any", x.hiredBy(), -1);
        Due.due("of like ones the first", x.hired(500), 0);
        Due.due("hired by", x.hiredBy(), 218);
        String two = "barge x a c 1;barge y a c 1;raft 2 2;knot 4;";
        Calls.river(x, "quay a both;quay b both;quay c both;leg 2 1 10 9 9;leg 1 1 10 9 9;" + two);
        Due.due("none ends", x.best(0), -1);
        Due.due("with the second leg hired", x.hired(0), 1);
        Due.due("in a row on both", x.hiredBy(), 4 + 20 + 4 + 20);
        Calls.river(x, "quay a both;quay b both;quay c both;leg 1 1 10 9 9;leg 1 1 10 9 9;" + two);
        Due.due("with none", x.hired(0), -1);
        Due.due("the latest that was 0 or above", x.hiredBy(), 48);
        Calls.river(x, "quay a both;quay b both;quay c both;leg 1 2 10 9 9;leg 2 1 10 9 9;leg 9");
        Due.due("a fault leaves it", x.count(1), 2);
        // EDGE 0 counts where the raft is as broad as the hired leg: two abreast still don't fit.
        Calls.river(x, "quay a both;quay b both;leg 1 1 10 9 0;barge x a b 1;barge y a b 1;raft 2 2;knot 4;");
        Due.due("column fits, a row is as broad as edges", x.hired(0), 0);
        Due.due("hired by", x.hiredBy(), 4 + 10 + 4 + 10);
        Calls.river(x, "quay a both;quay b both;leg 1 1 10 9 0;barge x a b 1;barge y a b 1;raft 2 1;knot 4;");
        Due.due("no room for a column", x.hired(0), -1);
        Calls.river(x, "quay a both;raft 1 1;");
        Due.due("no leg", x.hired(0), -2);
        Calls.river(x, "quay a both;quay b both;leg 1 1 10 9 0;");
        Due.due("nine cells", x.hired(0), -2);
        Due.due("no quay", new BargeRaft().hired(0), -2);
    }

    private static void promise29() {
        BargeRaft x = Calls.on(RIVER);
        Due.due("x", x.vain(0, 500), 226);
        Due.due("x at 0", x.vain(0, 0), 544);
        Due.due("y turns at its quay in any case", x.vain(1, 500), 218);
        Due.due("z goes down", x.vain(2, 500), -2);
        Due.due("no such one", x.vain(3, 500), -2);
        Due.due("no such one", x.vain(-1, 500), -2);
        Due.due("minute 1440", x.vain(0, 1440), -2);
        Due.due("minute -1", x.vain(0, -1), -2);
        Due.due("it is as told still", x.barge(0, 5), 1);
        Due.due("best as before", x.best(500), 218);
        BargeRaft y = Calls.on("quay a both;quay b both;quay c both;leg 1 1 10 9 9;leg 1 1 10 0 0;barge x a b 1;raft 1 1;");
        Due.due("off in time", y.best(0), 40);
        Due.due("too deep further up", y.vain(0, 0), -1);
    }

    private static void promise30() {
        BargeRaft x = Calls.on(RIVER);
        Due.due("x", x.without(0, 500), 210);
        Due.due("nobody waits for x", x.without(0, 0), 210);
        // x alone: 60 to b, off, on with an empty raft through the lock, z back.
        Due.due("y", x.without(1, 500), 60 + 45 + 45 + 60);
        Due.due("z", x.without(2, 500), 4 + 60 + 4 + 45 + 45 + 60);
        Due.due("no such one", x.without(3, 0), -2);
        Due.due("no such one", x.without(-1, 0), -2);
        Due.due("minute 1440", x.without(0, 1440), -2);
        Due.due("minute -1", x.without(0, -1), -2);
        Due.due("it is there still", x.best(500), 218);
        String five = "quay a both;quay b both;leg 2 2 10 9 9;barge p a b 1;barge q a b 1;barge r b a 1;barge s b a 1;barge t a b 10;raft 2 2;knot 1;";
        BargeRaft y = Calls.on(five);
        Due.due("five", y.best(0), -2);
        Due.due("the deep one left out", y.without(4, 0), 1 + 10 + 1 + 1 + 10 + 1);
        Due.due("another one left out", y.without(0, 0), -1);
        Due.due("six", Calls.on(five + "barge u a b 1;").without(4, 0), -2);
        Due.due("no quay", new BargeRaft().without(0, 0), -2);
        Due.due("nine cells", Calls.on("quay a both;quay b both;leg 2 2 10 9 9;barge p a b 1;").without(0, 0), -2);
    }

    private static void promise31and32() {
        BargeRaft x = Calls.on(RIVER);
        Due.due("nothing kept", x.restore(0), false);
        Due.due("nothing kept", x.restore(1), false);
        Calls.lay(x, 1, 2, 0, 0, 0, 0);
        Calls.plan(x, "on x 0 0;on y 1 0;");
        x.water(3);
        Due.due("image 0", x.image(0), true);
        Due.due("image 2", x.image(2), false);
        Due.due("image -1", x.image(-1), false);
        Due.due("place 1 is empty still", x.restore(1), false);
        x.judge(0);
        Calls.river(x, "quay q left;raft 1 2;?");
        x.taking(0, 0);
        Calls.river(x, "quay q left;raft 1 2;");
        Due.due("image 1", x.image(1), true);
        Calls.river(x, "!");
        x.feed(1, 2, 3, 4, 5);
        Due.due("restore 0", x.restore(0), true);
        int[] counts = {3, 2, 3, 2, 3, 2, 3, 20, 5};
        for (int w = 0; w < counts.length; w++) {
            Due.due("count " + w, x.count(w), counts[w]);
        }
        Due.due("fault stays", x.fault(), 1);
        Due.due("raft", x.cell(1), 1);
        Due.due("knots by the grid of then", x.knots(), 1);
        Due.due("plan", x.act(1, 1), 1);
        Due.due("what was judged stays", x.judged(1), 4);
        Due.due("what was taken stays", x.takenBy(1), 1);
        Due.due("names", x.end(0), true);
        Due.due("names", Calls.plan(x, "off z;"), 1);
        x.water(0);
        Calls.lay(x, 0, 0, 0, 0, 0, 0);
        Due.due("an image is not changed by what comes then", x.restore(0), true);
        Due.due("acts", x.count(5), 2);
        Due.due("water", x.count(6), 3);
        Due.due("raft", x.cell(0), 0);
        Due.due("restore 1", x.restore(1), true);
        Due.due("quays", x.count(0), 1);
        Due.due("rows", x.count(4), 2);
        Due.due("acts", x.count(5), 0);
        Due.due("raft", x.cell(0), -1);
        Due.due("restore -1", x.restore(-1), false);
        Due.due("restore 2", x.restore(2), false);
        Due.due("image over another", x.image(0), true);
        Calls.river(x, RIVER);
        x.restore(0);
        Due.due("the later one", x.count(0), 1);
    }

    private static void promise33() {
        BargeRaft x = Calls.on(RIVER);
        Calls.plan(x, "go;go;go;");
        x.water(7);
        x.feed(0, 0, 0, 0, 0);
        x.end(13);
        int[] counts = {3, 2, 3, 2, 3, 3, 7, 13, 5};
        for (int w = 0; w < counts.length; w++) {
            Due.due("count " + w, x.count(w), counts[w]);
        }
        Due.due("count 9", x.count(9), -1);
        Due.due("count -1", x.count(-1), -1);
        Due.due("one quay, one stop", Calls.on("quay a left;").count(8), 1);
    }

    public static void main(String[] args) {
        promise25();
        promise25Wrong();
        promise26();
        promise27and28();
        promise29();
        promise30();
        promise31and32();
        promise33();
        Due.close("SearchPromisesTest");
    }
}
