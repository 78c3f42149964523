/** The edges that 'Terms' names of texts: TOKENS, RIVERS, PLANS and the places of their FAULTS. */
public final class TextEdgesTest {
    private static final String TWO = "quay a left;quay b right;";
    private static final String LEG = "leg 4 6 999 99 99;";
    private static final String NAMED = TWO + LEG + "barge x a b 7;barge y b a 8;";
    private static final String WORDS =
        "quay leg barge raft knot hold turn left right both open lock apart off on shift go";

    private static BargeRaft taken(String text, int lines) {
        BargeRaft x = new BargeRaft();
        Due.due("river '" + text + "'", Calls.river(x, text), lines);
        Due.due("fault of '" + text + "'", x.fault(), 0);
        Due.due("tape behind '" + text + "'", x.count(7), 0);
        return x;
    }

    /** An object of which nothing is as in a new one. */
    private static BargeRaft full() {
        BargeRaft x = Calls.on("quay a both;quay b left open 480 1000;" + LEG + "barge x a b 9;barge y a b 8 apart x;raft 2 2;knot 1;");
        Calls.plan(x, "on x 0 0;go;off x;");
        Calls.lay(x, 1, 2, 0, 0);
        x.taking(1, 1);
        x.judge(7);
        x.hired(500);
        x.water(3);
        return x;
    }

    private static void refused(String text, int place, int kind) {
        BargeRaft x = full();
        String before = Looks.kept(x) + Looks.told(x);
        Due.due("river '" + text + "'", Calls.river(x, text), -1 - place);
        Due.due("fault of '" + text + "'", x.fault(), kind);
        Due.due("tape behind '" + text + "'", x.count(7), 0);
        Due.same("it stays, behind '" + text + "'", Looks.kept(x) + Looks.told(x), before);
    }

    private static BargeRaft planTaken(String text, int acts) {
        BargeRaft x = Calls.on(NAMED);
        Due.due("plan '" + text + "'", Calls.plan(x, text), acts);
        Due.due("fault of '" + text + "'", x.fault(), 0);
        Due.due("tape behind '" + text + "'", x.count(7), 0);
        Due.due("acts of '" + text + "'", x.count(5), acts);
        return x;
    }

    private static void planRefused(String text, int place, int kind) {
        BargeRaft x = Calls.on(NAMED);
        Calls.plan(x, "go;on y 5 3;");
        Calls.lay(x, 1, 2, 0, 0, 0, 0, 0, 0, 0);
        x.water(3);
        x.judge(7);
        String before = Looks.kept(x) + Looks.told(x);
        Due.due("plan '" + text + "'", Calls.plan(x, text), -1 - place);
        Due.due("fault of '" + text + "'", x.fault(), kind);
        Due.due("tape behind '" + text + "'", x.count(7), 0);
        Due.same("it stays, behind '" + text + "'", Looks.kept(x) + Looks.told(x), before);
    }

    private static boolean isLetter(int sign) {
        return sign >= 'a' && sign <= 'z';
    }

    private static boolean isDigit(int sign) {
        return sign >= '0' && sign <= '9';
    }

    private static boolean isBlank(int sign) {
        return sign == 32 || sign == 10;
    }

    // ---- TOKENS

    private static void blanks() {
        Due.says("with blanks (32, 10) between them or not");
        for (int sign = 0; sign < 256; sign++) {
            String text = "quay" + (char) sign + "a left;";
            if (isBlank(sign)) {
                taken(text, 1);
            } else {
                refused(text, isLetter(sign) || isDigit(sign) ? 0 : 4, 1);
            }
        }
        taken("\n quay \n\n a  left\n;\n ", 1);
        taken("quay a left;quay b both open 0 1;leg 1 1 1 1 1;", 3);
        taken(" \n", 0);
    }

    private static void words() {
        Due.says("WORDS: small letters, 1 to 6");
        for (int sign = 0; sign < 256; sign++) {
            String text = "quay " + (char) sign + " left;";
            if (isLetter(sign)) {
                taken(text, 1);
            } else {
                refused(text, isBlank(sign) ? 7 : 5, 1);
            }
        }
        taken("quay abcdef left;", 1);
        refused("quay abcdefg left;", 5, 1);
        refused("quay zzzzzzzz left;", 5, 1);
        taken("quay az left;quay zz left;quay aaaaaa left;leg 1 1 1 1 1;leg 1 1 1 1 1;", 5);
        BargeRaft x = taken("quay abcdef left;quay abcdeg left;leg 1 1 1 1 1;barge abcde abcdeg abcdef 1;", 4);
        Due.due("names unlike in the sixth letter", x.barge(0, 0), 1);
        Due.due("names unlike in the sixth letter", x.barge(0, 1), 0);
    }

    private static void numbers() {
        Due.says("NUMBERS: 1 to 4 digits");
        for (int sign = 0; sign < 256; sign++) {
            String text = "knot " + (char) sign + ";";
            if (sign > '0' && isDigit(sign)) {
                taken(text, 1);
            } else if (sign == '0') {
                refused(text, 5, 2);
            } else {
                refused(text, isBlank(sign) ? 6 : 5, 1);
            }
        }
        taken("knot 0060;", 1);
        refused("knot 00060;", 5, 1);
        refused("knot 9999;", 5, 2);
        refused("knot 10000;", 5, 1);
        refused("knot 4294967297;", 5, 1);
    }

    private static void runs() {
        Due.says("A WORD, NUMBER goes on as long as small letters and digits do; what is not as told is no TOKEN");
        for (int sign = 0; sign < 256; sign++) {
            String text = "knot 5" + (char) sign;
            if (sign == ';') {
                taken(text, 1);
            } else if (isDigit(sign) || isBlank(sign)) {
                refused(text, 7, 1);
            } else {
                refused(text, isLetter(sign) ? 5 : 6, 1);
            }
        }
        refused("knot5;", 0, 1);
        refused("knot 5a;", 5, 1);
        refused("quay a1 left;", 5, 1);
        refused("quay 1a left;", 5, 1);
        refused("quay a left0;", 7, 1);
        refused("quaya left;", 0, 1);
        refused("quay abcdef1 left;", 5, 1);
    }

    // ---- LINES

    private static void lines() {
        Due.says("{ LINE ; }");
        taken("", 0);
        taken("knot 5;", 1);
        taken("knot 5;hold 3;", 2);
        refused("knot 5", 6, 1);
        refused(";", 0, 1);
        refused("knot 5;;", 7, 1);
        refused("knot 5 hold 3;", 7, 1);
        refused("a;", 0, 1);
        refused("5;", 0, 1);
        refused("left;", 0, 1);
        refused("off x;", 0, 1);
        refused("go;", 0, 1);
    }

    private static void open() {
        Due.says("[ 'open' A B ] (A 0 to 1439, B above A, 1440 at most; 0 1440 without)");
        int[][] good = {{0, 1}, {0, 1440}, {1, 2}, {1438, 1439}, {1438, 1440}, {1439, 1440}};
        for (int[] g : good) {
            BargeRaft x = taken("quay a left open " + g[0] + " " + g[1] + ";", 1);
            Due.due("A", x.quay(0, 1), g[0]);
            Due.due("B", x.quay(0, 2), g[1]);
        }
        refused("quay a left open 1440 1440;", 17, 2);
        refused("quay a left open 1440 1441;", 17, 2);
        refused("quay a left open 9999 1440;", 17, 2);
        refused("quay a left open 0 0;", 19, 2);
        refused("quay a left open 5 5;", 19, 2);
        refused("quay a left open 5 4;", 19, 2);
        refused("quay a left open 1439 1439;", 22, 2);
        refused("quay a left open 0 1441;", 19, 2);
        refused("quay a left open 1439 1441;", 22, 2);
        refused("quay a left open;", 16, 1);
        refused("quay a left open 5;", 18, 1);
        refused("quay a left open 5 6 7;", 21, 1);
        refused("quay a left open 5 6 open 5 6;", 21, 1);
        BargeRaft x = taken("quay a left;", 1);
        Due.due("A without", x.quay(0, 1), 0);
        Due.due("B without", x.quay(0, 2), 1440);
        BargeRaft again = taken("quay a left open 3 4;", 1);
        Due.due("the next text", Calls.river(again, "quay a left;"), 1);
        Due.due("A without, behind a text with", again.quay(0, 1), 0);
        Due.due("B without, behind a text with", again.quay(0, 2), 1440);
        x = taken("quay a left open 3 4;quay b right;leg 1 1 1 1 1;", 3);
        Due.due("A without, behind one with", x.quay(1, 1), 0);
        Due.due("B without, behind one with", x.quay(1, 2), 1440);
    }

    private static void sides() {
        Due.says("SIDE: 'left' | 'right' | 'both'");
        String[] sides = {"left", "right", "both"};
        for (int i = 0; i < 3; i++) {
            Due.due(sides[i], taken("quay a " + sides[i] + ";", 1).quay(0, 0), i + 1);
        }
        refused("quay a turn;", 7, 1);
        refused("quay a open 0 1;", 7, 1);
        refused("quay a lef;", 7, 1);
        refused("quay a 1;", 7, 1);
        refused("quay a;", 6, 1);
        refused("quay a left right;", 12, 1);
    }

    /** A NUMBER of a LEG, both its bounds and what lies beyond them. */
    private static void legNumber(int what, int least, int most) {
        String[] parts = {"1", "1", "1", "1", "1", "lock 1", "1"};
        StringBuilder ahead = new StringBuilder(TWO + "leg ");
        for (int i = 0; i < what; i++) {
            ahead.append(parts[i]).append(' ');
        }
        if (what == 5) {
            ahead.append("lock ");
        }
        StringBuilder behind = new StringBuilder();
        for (int i = what + 1; i < (what < 5 ? 5 : 7); i++) {
            behind.append(' ').append(parts[i]);
        }
        for (int n : new int[] {least, most}) {
            Due.due("part " + what, taken(ahead.toString() + n + behind + ";", 3).leg(0, what), n);
        }
        for (int n : new int[] {least - 1, most + 1, 9999}) {
            if (n >= 0) {
                refused(ahead.toString() + n + behind + ";", ahead.length(), 2);
            }
        }
        refused(ahead + "a" + behind + ";", ahead.length(), 1);
    }

    private static void legs() {
        Due.says("'leg' BROAD LONG MINUTES DEEP EDGE [ 'lock' N EACH ] (1 to 4, 1 to 6, 1 to 999, 0 to 99 both; 1 to 9, 1 to 99)");
        int[][] bounds = {{1, 4}, {1, 6}, {1, 999}, {0, 99}, {0, 99}, {1, 9}, {1, 99}};
        for (int what = 0; what < bounds.length; what++) {
            legNumber(what, bounds[what][0], bounds[what][1]);
        }
        BargeRaft x = taken("quay a left;quay b left;quay c left;leg 4 6 999 99 0 lock 9 99;leg 1 1 1 0 99;", 5);
        int[][] legs = {{4, 6, 999, 99, 0, 9, 99}, {1, 1, 1, 0, 99, 0, 0}};
        for (int k = 0; k < 2; k++) {
            for (int w = 0; w < 7; w++) {
                Due.due("leg " + k + " " + w, x.leg(k, w), legs[k][w]);
            }
        }
        Due.due("the next text", Calls.river(x, TWO + "leg 1 1 1 1 1;"), 3);
        Due.due("N without, behind a text with", x.leg(0, 5), 0);
        Due.due("EACH without, behind a text with", x.leg(0, 6), 0);
        refused(TWO + "leg 1 1 1 1;", 36, 1);
        refused(TWO + "leg 1 1 1 1 1 1;", 39, 1);
        refused(TWO + "leg 1 1 1 1 1 lock;", 43, 1);
        refused(TWO + "leg 1 1 1 1 1 lock 1;", 45, 1);
        refused(TWO + "leg 1 1 1 1 1 lock 1 1 1;", 48, 1);
        refused(TWO + "leg 1 1 1 1 1 open 1 2;", 39, 1);
    }

    private static void bargeEnds() {
        Due.says("'barge' NAME FROM TO DRAFT (two QUAYS, unlike; 0 to 99)");
        Due.due("draft 0", taken(TWO + LEG + "barge x a b 0;", 4).barge(0, 2), 0);
        Due.due("draft 99", taken(TWO + LEG + "barge x b a 99;", 4).barge(0, 2), 99);
        refused(TWO + LEG + "barge x a b 100;", 55, 2);
        refused(TWO + LEG + "barge x a b;", 54, 1);
        refused(TWO + LEG + "barge x a 1;", 53, 1);
        refused(TWO + LEG + "barge x a b 1 2;", 57, 1);
        refused(TWO + LEG + "barge x a a 1;", 53, 3);
        refused(TWO + LEG + "barge x b b 1;", 53, 3);
        refused(TWO + LEG + "barge x c b 1;", 51, 3);
        refused(TWO + LEG + "barge x a c 1;", 53, 3);
        refused(TWO + LEG + "barge x x b 1;", 51, 3);
        refused(TWO + LEG + "barge x a x 1;", 53, 3);
        refused(TWO + LEG + "barge x a b 1;barge y x b 1;", 65, 3);
        refused(TWO + LEG + "barge x a b 1;barge y a x 1;", 67, 3);
        refused("quay a left;barge x a b 1;quay b left;" + LEG, 22, 3);
        taken("quay a left;quay b left;barge x b a 1;" + LEG, 4);
    }

    private static void aparts() {
        Due.says("{ 'apart' BARGE } (BARGES told ahead)");
        String x = TWO + LEG + "barge x a b 1;";
        Due.due("none", taken(x, 4).barge(0, 3), 0);
        BargeRaft two = taken(x + "barge y a b 1 apart x;", 5);
        Due.due("y is apart from x", two.barge(1, 3), 1);
        Due.due("x is apart from y", two.barge(0, 3), 2);
        StringBuilder nine = new StringBuilder(TWO + LEG);
        for (int b = 0; b < 9; b++) {
            nine.append("barge b").append((char) ('a' + b)).append(" a b 1");
            for (int o = 0; o < b; o++) {
                nine.append(" apart b").append((char) ('a' + o));
            }
            nine.append(';');
        }
        BargeRaft all = taken(nine.toString(), 12);
        for (int b = 0; b < 9; b++) {
            Due.due("all nine apart, " + b, all.barge(b, 3), 511 & ~(1 << b));
        }
        int behind = x.length();
        refused(TWO + LEG + "barge x a b 1 apart x;", 63, 3);
        refused(TWO + LEG + "barge x a b 1 apart y;barge y a b 1;", 63, 3);
        refused(x + "barge y a b 1 apart a;", behind + 20, 3);
        refused(x + "barge y a b 1 apart x apart x;", behind + 28, 3);
        refused(x + "barge y a b 1 apart;", behind + 19, 1);
        refused(x + "barge y a b 1 apart x x;", behind + 22, 1);
        refused(x + "barge y a b 1 apart 1;", behind + 20, 1);
        taken(x + "barge y a b 1;barge z a b 1 apart x apart y;barge w a b 1 apart x apart z;", 7);
        // What a text with a FAULT told is forgotten.
        BargeRaft again = new BargeRaft();
        Calls.river(again, x + "barge y a b 1 apart x;?");
        Calls.river(again, x + "barge y a b 1;");
        Due.due("not apart in the next text", again.barge(0, 3) + again.barge(1, 3), 0);
    }

    private static void setting(String word, int least, int most) {
        taken(word + " " + least + ";", 1);
        taken(word + " " + most + ";", 1);
        refused(word + " " + (most + 1) + ";", 5, 2);
        if (least > 0) {
            refused(word + " " + (least - 1) + ";", 5, 2);
        }
        refused(word + ";", 4, 1);
        refused(word + " a;", 5, 1);
        refused(word + " 1 1;", 7, 1);
        refused(word + " 1;" + word + " 1;", 7, 3);
        refused(word + " 1;" + word, 7, 3);
    }

    private static void settings() {
        Due.says("'raft' BROAD LONG (1 to 4, 1 to 6; 3 3 without): once");
        int[][] good = {{1, 1}, {4, 6}, {1, 6}, {4, 1}};
        for (int[] g : good) {
            BargeRaft x = taken("raft " + g[0] + " " + g[1] + ";", 1);
            Due.due("broad", x.count(3), g[0]);
            Due.due("long", x.count(4), g[1]);
        }
        Due.due("broad without", taken("", 0).count(3), 3);
        Due.due("long without", taken("", 0).count(4), 3);
        BargeRaft had = taken("raft 1 2;", 1);
        Calls.river(had, "");
        Due.due("broad without, in the next text", had.count(3), 3);
        Due.due("long without, in the next text", had.count(4), 3);
        refused("raft 0 1;", 5, 2);
        refused("raft 5 1;", 5, 2);
        refused("raft 1 0;", 7, 2);
        refused("raft 1 7;", 7, 2);
        refused("raft 1;", 6, 1);
        refused("raft 1 1 1;", 9, 1);
        refused("raft 1 1;raft 1 1;", 9, 3);
        Due.says("'knot' N (1 to 60): once");
        setting("knot", 1, 60);
        Due.says("'hold' N (0 to 60): once");
        setting("hold", 0, 60);
        Due.says("'turn' N (0 to 60): once");
        setting("turn", 0, 60);
        taken("raft 1 1;knot 1;hold 1;turn 1;", 4);
        Due.says("raft, knot, hold, turn told twice (at it)");
        refused("raft 1 1;knot 1;hold 1;turn 1;raft 1 1;", 30, 3);
        refused("raft 1 1;knot 1;hold 1;turn 1;knot 1;", 30, 3);
        refused("raft 1 1;knot 1;hold 1;turn 1;hold 1;", 30, 3);
        refused("raft 1 1;knot 1;hold 1;turn 1;turn 1;", 30, 3);
        refused("turn 1;quay a left;raft 1 1;turn 1;", 28, 3);
        BargeRaft twice = taken("raft 1 1;knot 1;hold 1;turn 1;", 4);
        Due.due("in the next text they are told again", Calls.river(twice, "turn 1;hold 1;knot 1;raft 1 1;"), 4);
    }

    /** To TAKE the second of two side by side at a left quay: by the left way one is held, by the back one it turns. */
    private static int takeSecond(String settings) {
        BargeRaft x = Calls.on("quay a left;quay b right;" + LEG + "barge x a b 1;barge y a b 1;raft 2 1;" + settings);
        Calls.lay(x, 1, 2);
        return x.taking(1, 0);
    }

    private static void settingsCount() {
        Due.says("'knot' N (5) | 'hold' N (3) | 'turn' N (10)");
        Due.due("knot and hold without", takeSecond(""), 5 + 3);
        Due.due("hold without", takeSecond("knot 1;"), 1 + 3);
        Due.due("knot without", takeSecond("hold 0;"), 5);
        Due.due("turn without", takeSecond("knot 1;hold 60;"), 1 + 10);
        Due.due("hold, just below turn without", takeSecond("knot 1;hold 9;"), 1 + 9);
        for (int least : new int[] {1, 60}) {
            Due.due("knot " + least, takeSecond("hold 0;knot " + least + ";"), least);
        }
        for (int least : new int[] {0, 60}) {
            Due.due("hold " + least, takeSecond("knot 1;turn 60;hold " + least + ";"), 1 + least);
            Due.due("turn " + least, takeSecond("knot 1;hold 60;turn " + least + ";"), 1 + least);
        }
    }

    private static void names() {
        Due.says("NAME: a WORD, none of those told here or in a PLAN");
        for (String word : WORDS.split(" ")) {
            refused("quay " + word + " left;", 5, 1);
            refused(TWO + LEG + "barge " + word + " a b 1;", 49, 1);
            refused(TWO + LEG + "barge x " + word + " b 1;", 51, 1);
            refused(TWO + LEG + "barge x a " + word + " 1;", 53, 1);
            refused(NAMED + "barge z a b 1 apart " + word + ";", NAMED.length() + 20, 1);
            planRefused("off " + word + ";", 4, 1);
            if (word.length() < 6) {
                taken("quay " + word + "s left;", 1);
            }
            if (word.length() > 2) {
                taken("quay " + word.substring(1) + " left;", 1);
            }
        }
        Due.says("NAME told once");
        refused("quay a left;quay a left;", 17, 3);
        refused(NAMED + "barge x a b 1;", NAMED.length() + 6, 3);
        refused(NAMED + "barge a a b 1;", NAMED.length() + 6, 3);
        refused(NAMED + "quay x left;", NAMED.length() + 5, 3);
        refused(NAMED + "quay b left;", NAMED.length() + 5, 3);
    }

    private static String quays(int many) {
        StringBuilder s = new StringBuilder();
        for (int q = 0; q < many; q++) {
            s.append("quay q").append((char) ('a' + q)).append(q % 2 == 0 ? " left;" : " both;");
        }
        return s.toString();
    }

    private static String legs(int many) {
        StringBuilder s = new StringBuilder();
        for (int k = 0; k < many; k++) {
            s.append("leg 1 1 ").append(k + 1).append(" 1 1;");
        }
        return s.toString();
    }

    private static String barges(int many) {
        StringBuilder s = new StringBuilder();
        for (int b = 0; b < many; b++) {
            s.append("barge b").append((char) ('a' + b)).append(" qa qb ").append(b).append(';');
        }
        return s.toString();
    }

    private static void mostOfEach() {
        Due.says("8 QUAYS, 9 BARGES at most, each sort numbered from 0");
        String most = quays(8) + legs(7) + barges(9);
        BargeRaft x = taken(most, 24);
        Due.due("quays", x.count(0), 8);
        Due.due("legs", x.count(1), 7);
        Due.due("barges", x.count(2), 9);
        Due.due("stops", x.count(8), 15);
        for (int q = 0; q < 8; q++) {
            Due.due("side of " + q, x.quay(q, 0), q % 2 == 0 ? 1 : 3);
        }
        for (int k = 0; k < 7; k++) {
            Due.due("minutes of " + k, x.leg(k, 2), k + 1);
        }
        for (int b = 0; b < 9; b++) {
            Due.due("draft of " + b, x.barge(b, 2), b);
        }
        Due.says("4 a ninth QUAY, a tenth BARGE, a LEG more than QUAYS told so far less one (at the LINE's first WORD)");
        refused(most + "quay qi left;", most.length(), 4);
        refused(most + "quay", most.length(), 4);
        refused(most + " quay 7;", most.length() + 1, 4);
        refused(most + "barge bj qa qb 1;", most.length(), 4);
        refused(most + "barge ba;", most.length(), 4);
        refused(most + "leg 1 1 1 1 1;", most.length(), 4);
        refused(quays(8) + "quay qi left;", quays(8).length(), 4);
        taken(quays(7) + legs(6) + "quay x left;" + legs(1), 15);
        taken(quays(2) + legs(1) + barges(8) + "barge x qa qb 1;", 12);
    }

    private static void legsDue() {
        Due.says("there is one less of them than of QUAYS at the end (0 without QUAYS)");
        taken("knot 1;", 1);
        taken(quays(1), 1);
        taken(quays(2) + legs(1), 3);
        taken(quays(3) + legs(2), 5);
        taken("quay a left;quay b left;" + legs(1) + "quay c left;" + legs(1), 5);
        refused(legs(1), 0, 4);
        refused("knot 1;leg", 7, 4);
        refused(quays(1) + legs(1), quays(1).length(), 4);
        refused(quays(1) + legs(1) + "quay z left;", quays(1).length(), 4);
        refused(quays(2) + legs(2), quays(2).length() + legs(1).length(), 4);
        refused(quays(2), quays(2).length(), 1);
        refused(quays(2) + "\n \n", quays(2).length() + 3, 1);
        refused(quays(8) + legs(6), quays(8).length() + legs(6).length(), 1);
        refused(quays(2) + legs(1) + "quay z left;", quays(2).length() + legs(1).length() + 12, 1);
    }

    // ---- FAULTS

    private static void order() {
        Due.says("FAULTS, the first along the text, of one TOKEN the least");
        refused("knot 0;quay A left;", 5, 2);
        refused("quay A left;knot 0;", 5, 1);
        refused("knot 1;knot 0;", 7, 3);
        refused("knot 61;knot 1;", 5, 2);
        refused(TWO + LEG + LEG + "quay", 43, 4);
        refused(TWO + "barge x c c 100;", 33, 3);
        refused(TWO + "barge x a a 100;", 35, 3);
        refused("knot 00061;", 5, 1);
        refused("leg ?", 0, 4);
        refused("quay a left;quay a ?", 17, 3);
        refused("?" + " ".repeat(900), 0, 1);
    }

    private static void ends() {
        Due.says("1 no TOKEN, or one that can't come (at it; the end: how many bytes there are, also with fewer LEGS than are due)");
        String[] begun = {"quay", "quay a", "quay a left", "quay a left open", "quay a left open 1", "quay a left open 1 2",
            TWO + "leg", TWO + "leg 1", TWO + "leg 1 1", TWO + "leg 1 1 1", TWO + "leg 1 1 1 1", TWO + "leg 1 1 1 1 1",
            TWO + "leg 1 1 1 1 1 lock", TWO + "leg 1 1 1 1 1 lock 1", TWO + "leg 1 1 1 1 1 lock 1 1", TWO,
            TWO + LEG + "barge", TWO + LEG + "barge x", TWO + LEG + "barge x a", TWO + LEG + "barge x a b",
            TWO + LEG + "barge x a b 1", NAMED + "barge z a b 1 apart", NAMED + "barge z a b 1 apart x",
            "raft", "raft 1", "raft 1 1", "knot", "knot 1", "hold", "hold 1", "turn", "turn 1"};
        for (String text : begun) {
            refused(text, text.length(), 1);
            refused(text + " ", text.length() + 1, 1);
            refused(text + "\n \n", text.length() + 3, 1);
            refused(text + ".", text.length(), 1);
            refused(text + " %", text.length() + 1, 1);
        }
    }

    private static void nineHundred() {
        Due.says("A RIVER is a text of at most 900 bytes");
        taken(" ".repeat(893) + "knot 7;", 1);
        taken("knot 7;" + " ".repeat(893), 1);
        refused("knot 7;" + " ".repeat(894), 900, 1);
        refused(" ".repeat(894) + "knot 7;", 900, 1);
        refused(" ".repeat(940), 900, 1);
        Due.says("900, if there are more and no FAULT is ahead");
        refused("knot 7;" + " ".repeat(893) + "?", 900, 1);
        refused("knot 7;" + " ".repeat(893) + "knot 7;", 900, 1);
        refused("knot 7;" + " ".repeat(893) + "leg", 900, 1);
        refused(TWO + " ".repeat(875), 900, 1);
        refused(TWO + " ".repeat(876), 900, 1);
        refused("quay" + " ".repeat(900), 900, 1);
        refused("knot" + " ".repeat(896) + "99;", 900, 1);
        refused("knot 0;" + " ".repeat(900), 5, 2);
        refused(" ".repeat(899) + "?;", 899, 1);
        refused(" ".repeat(899) + ";;", 899, 1);
        Due.says("TOKENS that begin ahead of it are read whole");
        refused("knot" + " ".repeat(895) + "60;", 900, 1);
        refused("knot" + " ".repeat(895) + "61;", 899, 2);
        refused("knot" + " ".repeat(895) + "00060;", 899, 1);
        refused("knot" + " ".repeat(895) + "6a;", 899, 1);
        refused("knot 1;" + " ".repeat(892) + "knot 1;", 899, 3);
        refused("knot 1;" + " ".repeat(892) + "knots 1;", 899, 1);
        refused("quay a left;quay" + " ".repeat(883) + "ab left;", 900, 1);
        refused("quay a left;quay" + " ".repeat(883) + "abcdefg left;", 899, 1);
        refused("quay a left;quay" + " ".repeat(883) + "a left;", 899, 3);
    }

    // ---- PLANS

    private static void planTexts() {
        Due.says("A PLAN is a text of at most 600 bytes");
        planTaken("", 0);
        planTaken(" \n ", 0);
        planTaken(" ".repeat(597) + "go;", 1);
        planTaken("go;" + " ".repeat(597), 1);
        planRefused("go;" + " ".repeat(598), 600, 1);
        planRefused(" ".repeat(598) + "go;", 600, 1);
        planRefused("go;" + " ".repeat(597) + "?", 600, 1);
        planRefused("go;" + " ".repeat(597) + "off w;", 600, 1);
        planRefused("on x" + " ".repeat(596) + "9 0;", 600, 1);
        planRefused("on x" + " ".repeat(595) + "9 0;", 599, 2);
        planRefused("on x" + " ".repeat(595) + "09 0;", 599, 2);
        planRefused("on x" + " ".repeat(595) + "05 0;", 600, 1);
        planRefused("off" + " ".repeat(596) + "x;", 600, 1);
        planRefused("off" + " ".repeat(596) + "xx;", 599, 3);
        planRefused("off" + " ".repeat(596) + "x2;", 599, 1);
        planRefused("off w;" + " ".repeat(700), 4, 3);
        planRefused(" ".repeat(940), 600, 1);
    }

    private static void planNumbers() {
        Due.says("'on' BARGE ROW COLUMN ; | 'shift' BARGE ROW COLUMN ; (0 to 5, 0 to 3)");
        for (String word : new String[] {"on", "shift"}) {
            for (int row = 0; row <= 5; row += 5) {
                for (int column = 0; column <= 3; column += 3) {
                    BargeRaft x = planTaken(word + " x " + row + " " + column + ";", 1);
                    Due.due("row", x.act(0, 2), row);
                    Due.due("column", x.act(0, 3), column);
                }
            }
            int at = word.length() + 3;
            planRefused(word + " x 6 0;", at, 2);
            planRefused(word + " x 0 4;", at + 2, 2);
            planRefused(word + " x 9999 0;", at, 2);
            planRefused(word + " x 6 4;", at, 2);
            planRefused(word + " x;", at - 1, 1);
            planRefused(word + " x 0;", at + 1, 1);
            planRefused(word + " x 0 0 0;", at + 4, 1);
            planRefused(word + " 0 0;", at - 2, 1);
            planRefused(word + " x y 0;", at, 1);
            planRefused(word + " z 6 4;", at - 2, 3);
            planRefused(word + " a 0 0;", at - 2, 3);
        }
        Due.says("'off' BARGE ; | 'go' ;");
        planTaken("off y;go;", 2);
        planRefused("off;", 3, 1);
        planRefused("off x 0 0;", 6, 1);
        planRefused("off z;", 4, 3);
        planRefused("off b;", 4, 3);
        planRefused("off 0;", 4, 1);
        planRefused("go x;", 3, 1);
        planRefused("go", 2, 1);
        planRefused("go ", 3, 1);
        planRefused("go;;", 3, 1);
        planRefused(";", 0, 1);
        planRefused("x;", 0, 1);
        planRefused("knot 5;", 0, 1);
        String[] begun = {"off", "off x", "on", "on x", "on x 0", "on x 0 0", "shift", "shift x", "shift x 0", "shift x 0 0", "go"};
        for (String text : begun) {
            planRefused("go;" + text, text.length() + 3, 1);
            planRefused(text + "\n ", text.length() + 2, 1);
            planRefused(text + " =", text.length() + 1, 1);
        }
    }

    private static void planActs() {
        Due.says("4 a 61st ACT (at its first WORD)");
        planTaken("go;".repeat(59), 59);
        planTaken("go;".repeat(60), 60);
        planTaken("off x;".repeat(60), 60);
        planRefused("go;".repeat(61), 180, 4);
        planRefused("go;".repeat(60) + " off", 181, 4);
        planRefused("go;".repeat(60) + "on w 9 9;", 180, 4);
        planRefused("go;".repeat(60) + "shift 7", 180, 4);
        planRefused("go;".repeat(60) + "?", 180, 1);
        planRefused("go;".repeat(60) + "left;", 180, 1);
        planRefused("go;".repeat(60) + ";", 180, 1);
        planRefused("go;".repeat(59) + "go", 179, 1);
        planTaken("go;".repeat(60) + " ".repeat(420), 60);
        planRefused("go;".repeat(60) + " ".repeat(421), 600, 1);
        planRefused("go;".repeat(60) + " ".repeat(419) + "go;", 599, 4);
        planRefused("go;".repeat(60) + " ".repeat(420) + "go;", 600, 1);
    }

    private static void planNames() {
        Due.says("It is of the RIVER of then");
        BargeRaft x = Calls.on(NAMED);
        Calls.plan(x, "off y;");
        Due.due("y was the second one", x.act(0, 1), 1);
        Calls.river(x, TWO + LEG + "barge y a b 7;");
        Due.due("no plan of it", x.count(5), 0);
        Due.missing("its act", () -> x.act(0, 0));
        Due.due("y is the first one", Calls.plan(x, "off y;"), 1);
        Due.due("y is the first one", x.act(0, 1), 0);
        Due.due("x is none any more", Calls.plan(x, "off x;"), -5);
        Due.due("x is none any more", x.fault(), 3);
        Due.due("without a river there is no name", Calls.plan(new BargeRaft(), "off y;"), -5);
        Due.due("without a river one goes", Calls.plan(new BargeRaft(), "go;"), 1);
    }

    public static void main(String[] args) {
        blanks();
        words();
        numbers();
        runs();
        lines();
        open();
        sides();
        legs();
        bargeEnds();
        aparts();
        settings();
        settingsCount();
        names();
        mostOfEach();
        legsDue();
        order();
        ends();
        nineHundred();
        planTexts();
        planNumbers();
        planActs();
        planNames();
        Due.close("TextEdgesTest");
    }
}
