/** Promises 14 to 19, each by itself, with answers worked out by hand. */
public final class RaftPromisesTest {
    private static void promise14() {
        BargeRaft x = Calls.on("quay a left;quay b left;leg 3 3 1 9 9;barge p a b 1;barge q a b 1;barge r a b 1 apart p;");
        Due.due("empty", x.sound(), 1);
        Calls.lay(x, 0, 0, 0, 0, 1, 0, 0, 0, 0);
        Due.due("one", x.sound(), 1);
        Calls.lay(x, 1, 0, 0, 0, 2, 0, 0, 0, 0);
        Due.due("corners only", x.sound(), 0);
        Calls.lay(x, 0, 0, 1, 2, 0, 0, 0, 0, 0);
        Due.due("the end of a row and the next one", x.sound(), 0);
        Calls.lay(x, 1, 2, 3, 0, 0, 0, 0, 0, 0);
        Due.due("apart, one between", x.sound(), 1);
        Calls.lay(x, 1, 3, 2, 0, 0, 0, 0, 0, 0);
        Due.due("apart, side by side", x.sound(), 0);
        Calls.lay(x, 0, 0, 3, 0, 2, 1, 0, 0, 0);
        Due.due("apart, one behind the other, told of the later one", x.sound(), 0);
        Calls.lay(x, 1, 0, 0, 2, 3, 0, 0, 0, 0);
        Due.due("apart at a corner", x.sound(), 1);
        Calls.lay(x, 1, 0, 3, 0, 0, 0, 0, 2, 0);
        Due.due("all loose", x.sound(), 0);
    }

    private static void promise15() {
        BargeRaft x = Calls.on("quay a left;quay b left;quay c left;leg 2 2 1 10 5;leg 3 1 1 4 9;"
            + "barge p a b 5;barge q a b 6;barge r a b 10;");
        Due.due("empty", x.fits(0), 1);
        Due.due("no such leg", x.fits(2), -1);
        Due.due("no such leg", x.fits(-1), -1);
        Calls.lay(x, 0, 0, 0, 0, 0, 3, 0, 0, 2);
        Due.due("one column of two, deep at most", x.fits(0), 1);
        x.water(1);
        Due.due("water fell", x.fits(0), 0);
        x.water(0);
        Calls.lay(x, 1, 0, 0, 0, 0, 0, 2, 0, 0);
        Due.due("three rows with an empty one", x.fits(0), 0);
        Calls.lay(x, 0, 0, 0, 1, 0, 2, 0, 0, 0);
        Due.due("three columns with an empty one", x.fits(0), 0);
        Calls.lay(x, 0, 1, 0, 0, 0, 2, 0, 0, 0);
        Due.due("just as broad, last column below edge", x.fits(0), 0);
        Calls.lay(x, 0, 0, 2, 0, 1, 0, 0, 0, 0);
        Due.due("likewise, other row", x.fits(0), 0);
        Calls.lay(x, 0, 2, 1, 0, 0, 0, 0, 0, 0);
        Due.due("just as broad, first column below edge", x.fits(0), 0);
        Calls.lay(x, 0, 0, 0, 0, 0, 0, 0, 0, 1);
        Due.due("edge above deep does not help", x.fits(1), 0);
        Calls.lay(x, 0, 0, 0, 0, 0, 0, 0, 0, 0);
        x.water(99);
        Due.due("empty, no water", x.fits(0), 1);
        BargeRaft y = Calls.on("quay a left;quay b left;leg 3 1 1 9 3;barge p a b 3;barge q a b 3;barge r a b 9;");
        Calls.lay(y, 1, 3, 2, 0, 0, 0, 0, 0, 0);
        Due.due("the deep one in the middle", y.fits(0), 1);
        Calls.lay(y, 3, 1, 2, 0, 0, 0, 0, 0, 0);
        Due.due("the deep one at the edge", y.fits(0), 0);
        Calls.lay(y, 3, 1, 0, 0, 0, 0, 0, 0, 0);
        Due.due("less broad: anywhere", y.fits(0), 1);
        Calls.lay(y, 1, 0, 0, 2, 0, 0, 0, 0, 0);
        Due.due("two long where one is", y.fits(0), 0);
        BargeRaft z = Calls.on("quay a left;quay b left;leg 1 1 1 9 3;barge p a b 0;barge q a b 4;");
        Calls.lay(z, 2, 0, 0, 0, 0, 0, 0, 0, 0);
        Due.due("a leg of one column is all edge", z.fits(0), 0);
        Calls.lay(z, 1, 0, 0, 0, 0, 0, 0, 0, 0);
        z.water(3);
        Due.due("draft 0 at edge 0", z.fits(0), 1);
        z.water(4);
        Due.due("draft 0 where the edge fell dry", z.fits(0), 0);
    }

    private static void promise16and17() {
        StringBuilder all = new StringBuilder("quay qa left;quay qb left;quay qc left;leg 3 3 1 9 9 lock 3 7;leg 3 3 1 9 9;");
        for (int b = 0; b < 9; b++) {
            all.append("barge ").append((char) ('a' + b)).append(" qa qb 1;");
        }
        BargeRaft x = Calls.on(all.toString());
        Due.due("ahead of any", x.passedBy(), 0);
        Due.due("empty", x.passes(0), 1);
        Due.due("no lock", x.passes(1), 0);
        Due.due("no leg", x.passes(2), -1);
        Due.due("no leg", x.passes(-1), -1);
        Calls.lay(x, 1, 2, 3, 4, 5, 6, 7, 8, 9);
        Due.due("row by row", x.passes(0), 3);
        Due.due("six knots between", x.passedBy(), 6);
        Calls.lay(x, 1, 2, 0, 0, 3, 0, 0, 4, 0);
        Due.due("two times", x.passes(0), 2);
        Due.due("cut between first and second or second and third", x.passedBy(), 1);
        Calls.lay(x, 1, 2, 0, 3, 0, 0, 0, 4, 0);
        Due.due("two times", x.passes(0), 2);
        Due.due("the cut without knots", x.passedBy(), 0);
        Calls.lay(x, 1, 2, 0, 0, 0, 0, 3, 4, 0);
        Due.due("an empty row between", x.passes(0), 2);
        Due.due("no knots", x.passedBy(), 0);
        Calls.lay(x, 0, 0, 0, 0, 0, 0, 3, 4, 0);
        Due.due("empty rows ahead", x.passes(0), 1);
        BargeRaft y = Calls.on(all.toString().replace("lock 3 7", "lock 2 7"));
        Calls.lay(y, 1, 2, 0, 3, 4, 0, 5, 0, 0);
        Due.due("fewest times", y.passes(0), 3);
        Due.due("knots", y.passedBy(), 3);
        Calls.lay(y, 1, 2, 3, 0, 0, 0, 0, 0, 0);
        Due.due("a row has more", y.passes(0), -2);
        Due.due("the latest stays", y.passedBy(), 3);
        y.passes(1);
        Due.due("the latest stays without a lock", y.passedBy(), 3);
        Calls.lay(y, 0, 0, 0, 0, 0, 0, 0, 0, 0);
        y.passes(0);
        Due.due("an empty one cuts none", y.passedBy(), 0);
        // Rows of 1, 2, 3, 3 for a lock of 4: only the first two go together.
        BargeRaft z = Calls.on(all.toString().replace("lock 3 7", "lock 4 7") + "raft 3 4;");
        Calls.lay(z, 1, 0, 0, 2, 3, 0, 4, 5, 6, 7, 8, 9);
        Due.due("three times", z.passes(0), 3);
        Due.due("two and three knots", z.passedBy(), 5);
    }

    private static void promise18and19() {
        BargeRaft x = Calls.on("quay a left;quay b left;quay c left;leg 2 2 1 10 5;leg 1 1 1 4 9;"
            + "barge p a b 5;barge q a b 6;barge r a b 10;barge s a b 11;");
        int[] dues = {2, 1, 1, 0};
        for (int b = 0; b < 4; b++) {
            Due.due("deep " + b, x.deep(b, 0), dues[b]);
            Due.due("edge deeper than deep " + b, x.deep(b, 1), 0);
        }
        Due.due("no barge", x.deep(4, 0), -1);
        Due.due("no barge", x.deep(-1, 0), -1);
        Due.due("no leg", x.deep(0, 2), -1);
        Due.due("no leg", x.deep(0, -1), -1);
        Due.due("water", x.water(1), true);
        Due.due("one less", x.deep(0, 0), 1);
        Due.due("one less", x.deep(2, 0), 0);
        Due.due("water -1", x.water(-1), false);
        Due.due("water 100", x.water(100), false);
        Due.due("it stays", x.count(6), 1);
        Due.due("water 99", x.water(99), true);
        Due.due("in all", x.count(6), 99);
        Due.due("nowhere", x.deep(0, 0), 0);
        Due.due("water 0", x.water(0), true);
        Due.due("as told again", x.deep(0, 0), 2);
        x.water(5);
        Calls.river(x, "?");
        Due.due("a fault leaves the water", x.count(6), 5);
        Calls.river(x, "");
        Due.due("a new river: no water has fallen", x.count(6), 0);
    }

    public static void main(String[] args) {
        promise14();
        promise15();
        promise16and17();
        promise18and19();
        Due.close("RaftPromisesTest");
    }
}
