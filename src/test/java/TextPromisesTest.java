/** Promises 1 to 13, each by itself, with answers worked out by hand. */
public final class TextPromisesTest {
    private static final String RIVER =
        "quay a both;quay b left open 480 1000;quay c right;"
        + "leg 2 3 60 30 20;leg 2 2 30 25 10 lock 2 15;"
        + "barge x a b 10;barge y a c 20;barge z c a 5 apart y;"
        + "raft 2 3;knot 4;hold 2;turn 7;";

    private static void riverFault(String text, int place, int kind) {
        BargeRaft x = new BargeRaft();
        Calls.river(x, "quay keep left;");
        Due.due("river " + text, Calls.river(x, text), -1 - place);
        Due.due("fault of " + text, x.fault(), kind);
        Due.due("quays that stay, " + text, x.count(0), 1);
        Due.due("side that stays, " + text, x.quay(0, 0), 1);
        Due.due("tape behind " + text, x.count(7), 0);
    }

    private static void promise1() {
        BargeRaft x = new BargeRaft();
        int[] counts = {0, 0, 0, 3, 3, 0, 0, 0, 0};
        for (int i = 0; i < counts.length; i++) {
            Due.due("new count " + i, x.count(i), counts[i]);
        }
        Due.due("new fault", x.fault(), 0);
        Due.due("new best", x.best(0), -2);
        Due.due("empty lay", Calls.lay(x, 0, 0, 0, 0, 0, 0, 0, 0, 0), 0);
    }

    private static void promise2and3() {
        BargeRaft x = new BargeRaft();
        Due.due("feed", x.feed(0x71756179, 0x2061206c, 0x6566743b, -1, 0), 20);
        Due.due("end above", x.end(21), false);
        Due.due("end below", x.end(-1), false);
        Due.due("tape", x.count(7), 20);
        Due.due("end all", x.end(20), true);
        Due.due("end 12", x.end(12), true);
        Due.due("end 13", x.end(13), false);
        Due.due("bytes, the highest first", x.river(), 1);
        Due.due("side", x.quay(0, 0), 1);
        for (int i = 1; i <= 47; i++) {
            Due.due("feed " + i, x.feed(i, i, i, i, i), 20 * i);
        }
        Due.due("feed above 940", x.feed(0, 0, 0, 0, 0), -1);
        Due.due("tape of 940", x.count(7), 940);
        Due.due("end 921", x.end(921), true);
        Due.due("feed at 921", x.feed(0, 0, 0, 0, 0), -1);
        Due.due("end 920", x.end(920), true);
        Due.due("feed at 920", x.feed(0, 0, 0, 0, 0), 940);
        Due.due("end 0", x.end(0), true);
        Due.due("tape of 0", x.count(7), 0);
    }

    private static void promise4() {
        BargeRaft x = new BargeRaft();
        Due.due("no text", x.river(), 0);
        Due.due("lines", Calls.river(x, RIVER), 12);
        Due.due("tape behind river", x.count(7), 0);
        Due.due("no blanks needed, and any", Calls.river(x, " \n quay  a\nleft open 0 1440 ; quay b right;leg 1 1 1 0 0;"), 3);
        Due.due("leading noughts", Calls.river(x, "raft 0002 0003;knot 01;"), 2);
        Due.due("broad", x.count(3), 2);
        Due.due("names of six", Calls.river(x, "quay abcdef both;"), 1);
        Due.due("names near words", Calls.river(x, "quay quays both;quay ope both;leg 4 6 999 99 99 lock 9 99;barge ons quays ope 0;barge gos ope quays 99 apart ons;"), 5);
        Due.due("settings", Calls.river(x, "turn 0;hold 0;knot 60;raft 4 6;"), 4);
        StringBuilder eight = new StringBuilder();
        for (int q = 0; q < 8; q++) {
            eight.append("quay q").append((char) ('a' + q)).append(" both;");
        }
        for (int k = 0; k < 7; k++) {
            eight.append("leg 1 1 1 1 1;");
        }
        for (int b = 0; b < 9; b++) {
            eight.append("barge b").append((char) ('a' + b)).append(" qa qb 1;");
        }
        Due.due("most of all", Calls.river(x, eight.toString()), 24);
        Due.due("stops", x.count(8), 15);
        riverFault(eight + "quay i left;", eight.length(), 4);
        riverFault(eight + "barge i qa qb 1;", eight.length(), 4);
        riverFault(eight + "leg 1 1 1 1 1;", eight.length(), 4);
        String full = " ".repeat(888) + "quay a left;";
        Due.due("900 bytes", Calls.river(x, full), 1);
        riverFault(full + " ", 900, 1);
        riverFault(full + "?", 900, 1);
        riverFault("raft 1 1;" + " ".repeat(888) + "knotted;", 897, 1);
        riverFault("raft 1 1;" + " ".repeat(886) + "knot 5;", 900, 1);
        riverFault("raft 1 1;" + " ".repeat(885) + "knot 99999;", 899, 1);
        riverFault("raft 1 1;" + " ".repeat(885) + "knot 99;", 899, 2);
        riverFault("raft 1 1;" + " ".repeat(885) + "knot 9 ;;;;", 900, 1);
    }

    private static void promise5Tokens() {
        riverFault("quay", 4, 1);
        riverFault("quay  ", 6, 1);
        riverFault("Quay a left;", 0, 1);
        riverFault("quay aB left;", 6, 1);
        riverFault("quay a1 left;", 5, 1);
        riverFault("quay abcdefg left;", 5, 1);
        riverFault("quay a\tleft;", 6, 1);
        riverFault("quay 1 left;", 5, 1);
        riverFault("quay go left;", 5, 1);
        riverFault("quay a off;", 7, 1);
        riverFault("quay a open 1 2;", 7, 1);
        riverFault("quay a left.", 11, 1);
        riverFault("quay a left;;", 12, 1);
        riverFault("quay a left open 1;", 18, 1);
        riverFault("quay a left lock 1 2;", 12, 1);
        riverFault("off a;", 0, 1);
        riverFault("a;", 0, 1);
        riverFault("7;", 0, 1);
        riverFault("knot five;", 5, 1);
        riverFault("knot 00005;", 5, 1);
        riverFault("quay a left;quay b left", 23, 1);
        riverFault("quay a left;quay b left; ", 25, 1);
        riverFault("quay a left;barge left a a 1;", 18, 1);
        riverFault("quay a left;barge x on a 1;", 20, 1);
        riverFault("quay a left;quay b left;barge x a b 1 apart go;", 44, 1);
        riverFault("quay a left;quay b left;barge x a b 1 2;", 38, 1);
    }

    private static void promise5Others() {
        String two = "quay a left;quay b left;";
        riverFault("quay a left open 1440 1440;", 17, 2);
        riverFault("quay a left open 0 0;", 19, 2);
        riverFault("quay a left open 0 1441;", 19, 2);
        String[] legs = {"0 1 1 1 1", "5 1 1 1 1", "1 0 1 1 1", "1 7 1 1 1", "1 1 0 1 1", "1 1 1000 1 1",
            "1 1 1 100 1", "1 1 1 1 100", "1 1 1 1 1 lock 0 1", "1 1 1 1 1 lock 10 1", "1 1 1 1 1 lock 1 0",
            "1 1 1 1 1 lock 1 100"};
        int[] places = {0, 0, 2, 2, 4, 4, 6, 8, 15, 15, 17, 17};
        for (int i = 0; i < legs.length; i++) {
            riverFault(two + "leg " + legs[i] + ";", 28 + places[i], 2);
        }
        riverFault(two + "barge x a b 100;", 36, 2);
        riverFault("raft 0 1;", 5, 2);
        riverFault("raft 5 1;", 5, 2);
        riverFault("raft 1 0;", 7, 2);
        riverFault("raft 1 7;", 7, 2);
        riverFault("knot 0;", 5, 2);
        riverFault("knot 61;", 5, 2);
        riverFault("hold 61;", 5, 2);
        riverFault("turn 61;", 5, 2);
        riverFault("quay a left;quay a left;", 17, 3);
        riverFault(two + "barge a a b 1;", 30, 3);
        riverFault(two + "barge x c b 1;", 32, 3);
        riverFault(two + "barge x a a 1;", 34, 3);
        riverFault(two + "barge x x a 1;", 32, 3);
        riverFault(two + "barge x a b 1;quay x left;", 43, 3);
        riverFault(two + "barge x a b 1;barge y x b 1;", 46, 3);
        riverFault(two + "barge x a b 1 apart x;", 44, 3);
        riverFault(two + "barge x a b 1 apart a;", 44, 3);
        riverFault(two + "barge x a b 1;barge y a b 1 apart x apart x;", 66, 3);
        riverFault("raft 1 1;raft 1 1;", 9, 3);
        riverFault("knot 1;knot 1;", 7, 3);
        riverFault("hold 1;hold x;", 7, 3);
        riverFault("turn 1;turn 1;", 7, 3);
        riverFault("leg 1 1 1 1 1;", 0, 4);
        riverFault("quay a left;leg;", 12, 4);
        riverFault(two + "leg 1 1 1 1 1;leg 1 1 1 1 1;", 38, 4);
        BargeRaft x = new BargeRaft();
        Calls.river(x, "?");
        Due.due("a fault", x.fault(), 1);
        Calls.river(x, RIVER);
        Due.due("no fault any more", x.fault(), 0);
        Calls.plan(x, "on x 9 0;");
        Due.due("a plan's fault", x.fault(), 2);
        Calls.lay(x, 1);
        x.image(0);
        Due.due("it stays", x.fault(), 2);
        Calls.plan(x, "");
        Due.due("gone", x.fault(), 0);
    }

    private static void promise6to8() {
        BargeRaft x = Calls.on(RIVER);
        int[][] quays = {{3, 0, 1440}, {1, 480, 1000}, {2, 0, 1440}};
        int[][] legs = {{2, 3, 60, 30, 20, 0, 0}, {2, 2, 30, 25, 10, 2, 15}};
        int[][] barges = {{0, 1, 10, 0, 0, 1}, {0, 2, 20, 4, 0, 2}, {2, 0, 5, 2, 2, 4}};
        for (int i = 0; i < 3; i++) {
            for (int w = 0; w < 3; w++) {
                Due.due("quay " + i + " " + w, x.quay(i, w), quays[i][w]);
            }
            for (int w = 0; w < 7 && i < 2; w++) {
                Due.due("leg " + i + " " + w, x.leg(i, w), legs[i][w]);
            }
            for (int w = 0; w < 6; w++) {
                Due.due("barge " + i + " " + w, x.barge(i, w), barges[i][w]);
            }
        }
        x.water(9);
        Due.due("deep as told", x.leg(0, 3), 30);
        int[][] none = {{-1, 0}, {3, 0}, {0, -1}, {0, 7}, {Integer.MAX_VALUE, 0}, {0, Integer.MIN_VALUE}};
        for (int[] n : none) {
            Due.missing("quay " + n[0] + " " + n[1], () -> x.quay(n[0], n[1]));
            Due.missing("leg " + n[0] + " " + n[1], () -> x.leg(n[0], n[1]));
            Due.missing("barge " + n[0] + " " + n[1], () -> x.barge(n[0], n[1]));
            Due.missing("act " + n[0] + " " + n[1], () -> x.act(n[0], n[1]));
        }
        Due.missing("quay 0 3", () -> x.quay(0, 3));
        Due.missing("leg 2 0", () -> x.leg(2, 0));
        Due.missing("barge 0 6", () -> x.barge(0, 6));
        BargeRaft late = Calls.on("quay a left;quay b left;barge u b a 1;barge v a b 1 apart u;quay c left;leg 1 1 1 1 1;leg 1 1 1 1 1;");
        Due.due("stop on, quays told later", late.barge(0, 4), 3);
        Due.due("stop off", late.barge(0, 5), 4);
        Due.due("apart the other way", late.barge(0, 3), 2);
    }

    private static void promise9to11() {
        BargeRaft x = Calls.on(RIVER);
        Due.due("lay", Calls.lay(x, 1, 2, 0, 3, 0, 0), 3);
        Due.due("tape", x.count(7), 0);
        Due.due("knots", x.knots(), 2);
        int[] cells = {0, 1, -1, 2, -1, -1, -1};
        for (int k = 0; k < cells.length; k++) {
            Due.due("cell " + k, x.cell(k), cells[k]);
        }
        Due.due("cell -1", x.cell(-1), -1);
        Due.due("cell 24", x.cell(24), -1);
        int[][] not = {{1, 1, 0, 0, 0, 0}, {4, 0, 0, 0, 0, 0}, {255, 0, 0, 0, 0, 0}, {1, 2, 0, 3, 0}, {1, 2, 0, 3, 0, 0, 0}, {}};
        for (int[] n : not) {
            Due.due("not as told", Calls.lay(x, n), -1);
            Due.due("tape", x.count(7), 0);
            Due.due("it stays", x.cell(3), 2);
        }
        Due.due("nothing", Calls.lay(x, 0, 0, 0, 0, 0, 0), 0);
        Due.due("cell 3", x.cell(3), -1);
        Calls.lay(x, 1, 2, 0, 0, 0, 0);
        Due.due("side by side", x.knots(), 1);
        Calls.lay(x, 0, 1, 2, 0, 0, 0);
        Due.due("the end of a row and the next one", x.knots(), 0);
        BargeRaft line = Calls.on("quay a left;quay b left;leg 1 1 1 1 1;barge x a b 1;barge y a b 1;raft 1 6;");
        Calls.lay(line, 0, 0, 0, 0, 1, 2);
        Due.due("one column", line.knots(), 1);
        BargeRaft large = Calls.on("quay a left;quay b left;leg 1 1 1 1 1;barge x a b 1;barge y a b 1;barge z a b 1;raft 4 6;");
        int[] row = new int[24];
        row[23] = 1;
        row[22] = 2;
        row[19] = 3;
        Due.due("large lay", Calls.lay(large, row), 3);
        Due.due("large knots", large.knots(), 2);
        Due.due("last cell", large.cell(23), 0);
        Due.due("behind the last cell", large.cell(24), -1);
        Due.due("behind the last cell", large.taking(24, 0), -1);
    }

    private static void promise12and13() {
        String nine = "quay ql left;quay qr right;quay qe both;leg 4 6 1 99 99;leg 4 6 1 99 99;";
        StringBuilder all = new StringBuilder(nine);
        for (int b = 0; b < 9; b++) {
            all.append("barge ").append((char) ('a' + b)).append(" ql qr 1;");
        }
        BargeRaft x = Calls.on(all + "knot 1;hold 20;turn 7;");
        Due.due("ahead of any", x.takenBy(0), -1);
        Calls.lay(x, 1, 2, 3, 4, 5, 6, 7, 8, 9);
        // The middle one by its left way: its 4 knots and 2 more of the blocker; 2 tied; one held.
        Due.due("middle at left", x.taking(4, 0), 6 + 2 + 20);
        Due.due("way", x.takenBy(0), 0);
        Due.due("untied", x.takenBy(1), 6);
        Due.due("tied", x.takenBy(2), 2);
        Due.due("blockers", x.takenBy(3), 1);
        Due.due("at right", x.taking(4, 1), 28);
        Due.due("way right", x.takenBy(0), 1);
        Due.due("at both, left of like ones", x.taking(4, 2), 28);
        Due.due("way left", x.takenBy(0), 0);
        // The left column's middle at a right quay: across two blockers (53), at the back one:
        // 3 knots of its own and one more, that is tied again, one held, a turn.
        Due.due("back", x.taking(3, 1), 4 + 1 + 20 + 7);
        Due.due("way back", x.takenBy(0), 2);
        Due.due("back untied", x.takenBy(1), 4);
        Due.due("back tied", x.takenBy(2), 1);
        // The front right corner at a left quay: two blockers by both ways, 5 untied and 3 tied.
        Due.due("corner", x.taking(2, 0), 5 + 3 + 40);
        Due.due("way left", x.takenBy(0), 0);
        Due.due("two on the way", x.takenBy(3), 2);
        Due.due("none", x.taking(9, 0), -1);
        Due.due("none", x.taking(-1, 0), -1);
        Due.due("no quay", x.taking(0, 3), -1);
        Due.due("no quay", x.taking(0, -1), -1);
        Due.due("stays", x.takenBy(3), 2);
        Due.due("what 4", x.takenBy(4), -1);
        Due.due("what -1", x.takenBy(-1), -1);
        Calls.lay(x, 0, 2, 3, 4, 5, 6, 7, 8, 9);
        Due.due("nothing there", x.taking(0, 0), -1);
        Due.due("nothing is changed", x.knots(), 10);
        // Without these lines a knot needs 5, to hold 3, to turn 10, whatever the river before it told.
        BargeRaft plain = Calls.on("raft 1 1;knot 9;hold 9;turn 9;");
        Calls.river(plain, all.toString());
        Calls.lay(plain, 1, 2, 0, 0, 0, 0, 0, 0, 0);
        Due.due("knot and hold", plain.taking(1, 0), 5 + 3);
        Calls.lay(plain, 1, 0, 2, 3, 4, 0, 0, 0, 0);
        Due.due("three rows, three columns", plain.count(3) * 10 + plain.count(4), 33);
        Calls.lay(plain, 1, 4, 3, 2, 5, 6, 0, 0, 0);
        Due.due("turn", plain.taking(5, 0), 10 + 10);
        BargeRaft y = Calls.on(all + "knot 1;hold 0;turn 0;");
        Calls.lay(y, 0, 1, 0, 0, 0, 0, 0, 0, 0);
        Due.due("like ones: left ahead of back", y.taking(1, 0), 0);
        Due.due("left", y.takenBy(0), 0);
        Due.due("like ones: right ahead of back", y.taking(1, 1), 0);
        Due.due("right", y.takenBy(0), 1);
    }

    public static void main(String[] args) {
        promise1();
        promise2and3();
        promise4();
        promise5Tokens();
        promise5Others();
        promise6to8();
        promise9to11();
        promise12and13();
        Due.close("TextPromisesTest");
    }
}
