import java.util.ArrayList;
import java.util.Arrays;
import java.util.List;
import java.util.Random;

/** Random rivers, rafts and plans, the program compared with the plain saying of the document. */
public final class PlainTest {
    private static Random dice;
    private static BargeRaft x;
    private static Plain p;
    private static String river;

    private static int roll(int least, int most) {
        return least + dice.nextInt(most - least + 1);
    }

    private static boolean chance(int percent) {
        return dice.nextInt(100) < percent;
    }

    private static void due(String what, long got, long want) {
        Due.due(what + " on " + river, got, want);
    }

    /** A river that is good, rather narrow, of so many cells and barges at most. */
    private static String someRiver(int mostQuays, int mostBarges, int mostCells) {
        StringBuilder s = new StringBuilder();
        int quays = roll(1, mostQuays);
        int wide = 0;
        int high = 0;
        do {
            wide = roll(1, 4);
            high = roll(1, 6);
        } while (wide * high > mostCells || wide * high < Math.min(mostCells, 4));
        String[] sides = {"left", "right", "both"};
        for (int q = 0; q < quays; q++) {
            s.append("quay q").append((char) ('a' + q)).append(' ').append(sides[roll(0, 2)]);
            if (chance(40)) {
                int from = roll(0, 1439);
                s.append(" open ").append(from).append(' ').append(roll(from + 1, 1440));
            }
            s.append(';');
        }
        for (int k = 0; k + 1 < quays; k++) {
            int deep = roll(3, 9);
            s.append("leg ").append(chance(70) ? wide : roll(1, 4)).append(' ').append(chance(70) ? high : roll(1, 6));
            s.append(' ').append(roll(1, chance(50) ? 20 : 999)).append(' ').append(deep).append(' ').append(roll(2, 9));
            if (chance(40)) {
                s.append(" lock ").append(roll(1, 4)).append(' ').append(roll(1, 30));
            }
            s.append(';');
        }
        int barges = quays < 2 ? 0 : roll(0, mostBarges);
        for (int b = 0; b < barges; b++) {
            int from = chance(40) ? 0 : roll(0, quays - 1);
            int to = (from + roll(1, quays - 1)) % quays;
            s.append("barge b").append((char) ('a' + b)).append(" q").append((char) ('a' + from)).append(" q").append((char) ('a' + to));
            s.append(' ').append(chance(75) ? roll(0, 3) : roll(0, 7));
            for (int o = 0; o < b; o++) {
                if (chance(12)) {
                    s.append(" apart b").append((char) ('a' + o));
                }
            }
            s.append(';');
        }
        s.append("raft ").append(wide).append(' ').append(high).append(';');
        if (chance(70)) {
            s.append("knot ").append(roll(1, 9)).append(";");
        }
        if (chance(70)) {
            s.append("hold ").append(roll(0, chance(50) ? 9 : 40)).append(";");
        }
        if (chance(70)) {
            s.append("turn ").append(roll(0, chance(50) ? 30 : 60)).append(";");
        }
        return s.toString();
    }

    private static void begin(int quays, int barges, int cells) throws Plain.Fault {
        river = someRiver(quays, barges, cells);
        // An object that has had another river must answer like a new one.
        x = x == null || chance(40) ? new BargeRaft() : x;
        p = new Plain();
        p.readRiver(river);
        due("river", Calls.river(x, river), p.lines);
        if (chance(25)) {
            p.water = roll(0, 4);
            x.water(p.water);
            river = river + " water " + p.water;
        }
    }

    private static void faults() {
        river = "";
        String text = someRiver(5, 6, 24);
        for (int i = 0; i < 60; i++) {
            String worse = spoil(text, "; .0159azbqQ\n\t", List.of("quay", "leg", "lock", "open", "qa", "ba", "1440", "99", "apart ba", "go", "raft 2 2;", "knot 4;", "barge bz qa qb 3;", "quay qz left;"));
            if (chance(20)) {
                worse = worse + " ".repeat(Math.max(0, roll(890, 940) - worse.length()));
            }
            worse = worse.substring(0, Math.min(940, worse.length()));
            BargeRaft y = new BargeRaft();
            int answer;
            int kind = 0;
            Plain q = new Plain();
            try {
                q.readRiver(worse);
                answer = q.lines;
            } catch (Plain.Fault f) {
                answer = -1 - f.place;
                kind = f.kind;
            }
            Due.due("river " + worse, Calls.river(y, worse), answer);
            Due.due("fault " + worse, y.fault(), kind);
        }
    }

    private static String spoil(String text, String signs, List<String> words) {
        StringBuilder s = new StringBuilder(text);
        int times = roll(0, 3);
        for (int i = 0; i < times && s.length() > 0; i++) {
            int at = roll(0, s.length() - 1);
            switch (roll(0, 4)) {
                case 0 -> s.deleteCharAt(at);
                case 1 -> s.insert(at, signs.charAt(roll(0, signs.length() - 1)));
                case 2 -> s.setCharAt(at, signs.charAt(roll(0, signs.length() - 1)));
                case 3 -> {
                    int semi = s.indexOf(";", at);
                    s.insert(semi + 1, words.get(roll(0, words.size() - 1)));
                }
                default -> s.insert(at, words.get(roll(0, words.size() - 1)));
            }
        }
        return s.toString();
    }

    private static void told() {
        int[] counts = {p.quays.size(), p.legs.size(), p.barges.size(), p.broad, p.rows, 0, p.water, 0, p.stops()};
        for (int w = 0; w < counts.length; w++) {
            due("count " + w, x.count(w), counts[w]);
        }
        for (int q = 0; q < p.quays.size(); q++) {
            for (int w = 0; w < 3; w++) {
                due("quay " + q + " " + w, x.quay(q, w), p.quays.get(q)[w]);
            }
        }
        for (int k = 0; k < p.legs.size(); k++) {
            for (int w = 0; w < 7; w++) {
                due("leg " + k + " " + w, x.leg(k, w), p.legs.get(k)[w]);
            }
        }
        for (int b = 0; b < p.barges.size(); b++) {
            for (int w = 0; w < 3; w++) {
                due("barge " + b + " " + w, x.barge(b, w), p.barges.get(b)[w]);
            }
            int bits = 0;
            for (int o = 0; o < p.barges.size(); o++) {
                bits |= p.apart.contains(List.of(b, o)) ? 1 << o : 0;
            }
            due("apart " + b, x.barge(b, 3), bits);
            due("on " + b, x.barge(b, 4), p.onStop(b));
            due("off " + b, x.barge(b, 5), p.offStop(b));
            for (int k = 0; k < p.legs.size(); k++) {
                due("deep " + b + " " + k, x.deep(b, k), p.deep(b, k));
            }
        }
    }

    private static void rafts() {
        int[] raft = p.emptyRaft();
        for (int b = 0; b < p.barges.size(); b++) {
            int k = roll(0, raft.length - 1);
            if (raft[k] < 0 && chance(85)) {
                raft[k] = b;
            }
        }
        int[] bytes = Arrays.stream(raft).map(b -> b + 1).toArray();
        String what = " of " + Arrays.toString(raft);
        due("lay" + what, Calls.lay(x, bytes), Arrays.stream(raft).filter(b -> b >= 0).count());
        due("knots" + what, x.knots(), p.knots(raft).size());
        due("sound" + what, x.sound(), p.sound(raft) ? 1 : 0);
        for (int k = 0; k < raft.length; k++) {
            due("cell" + what, x.cell(k), raft[k]);
            for (int q = 0; q < p.quays.size() && q < 3; q++) {
                int[] by = raft[k] < 0 ? new int[] {-1} : p.take(raft, k, p.quays.get(q)[0]);
                due("taking " + k + " " + q + what, x.taking(k, q), by[0]);
                for (int w = 0; w + 1 < by.length; w++) {
                    due("takenBy " + w + " " + k + " " + q + what, x.takenBy(w), by[w + 1]);
                }
            }
        }
        for (int k = 0; k < p.legs.size(); k++) {
            due("fits " + k + what, x.fits(k), p.fits(raft, k, 0) ? 1 : 0);
            int[] by = p.passes(raft, k);
            due("passes " + k + what, x.passes(k), by == null ? -2 : by[0]);
            if (by != null && by[0] > 0) {
                due("passedBy " + k + what, x.passedBy(), by[1]);
            }
        }
    }

    /** A plan that is often good for a while. */
    private static String somePlan() {
        StringBuilder text = new StringBuilder();
        for (int i = 0; i < 45 && text.length() < 570; i++) {
            String best = text + "go;";
            for (int tries = 0; tries < 12; tries++) {
                String act = someAct();
                try {
                    List<int[]> plan = p.readPlan(text + act);
                    int answer = p.judge(plan, 0)[0];
                    if (answer == -1 || answer == plan.size()) {
                        best = text + act;
                        break;
                    }
                } catch (Plain.Fault f) {
                    throw new IllegalStateException(act);
                }
            }
            text = new StringBuilder(best);
            if (chance(2)) {
                break;
            }
        }
        return text.toString();
    }

    private static String someAct() {
        if (p.barges.isEmpty() || chance(25)) {
            return "go;";
        }
        String b = "b" + (char) ('a' + roll(0, p.barges.size() - 1));
        String cell = " " + roll(0, Math.min(5, p.rows)) + " " + roll(0, Math.min(3, p.broad)) + ";";
        int what = roll(0, 9);
        return what < 4 ? "off " + b + ";" : what < 9 ? "on " + b + cell : "shift " + b + cell;
    }

    private static void plans() throws Plain.Fault {
        String text = somePlan();
        if (chance(40)) {
            text = spoil(text, "; 015abgq?", List.of("go;", "off ba;", "on ba 0 0;", "shift bb 1 1;", "qa", "7", "go"));
        }
        text = text.substring(0, Math.min(text.length(), 900));
        List<int[]> plan;
        try {
            plan = p.readPlan(text);
            due("plan " + text, Calls.plan(x, text), plan.size());
            due("fault " + text, x.fault(), 0);
            p.acts = plan;
        } catch (Plain.Fault f) {
            due("plan " + text, Calls.plan(x, text), -1 - f.place);
            due("fault " + text, x.fault(), f.kind);
        }
        due("acts", x.count(5), p.acts.size());
        for (int i = 0; i < p.acts.size(); i++) {
            for (int w = 0; w < 4; w++) {
                due("act " + i + " " + w, x.act(i, w), p.acts.get(i)[w]);
            }
        }
        for (int times = 0; times < 2; times++) {
            int minute = times == 0 ? 0 : roll(0, 1439);
            int[] all = p.judge(p.acts, minute);
            due("judge " + text, x.judge(minute), all[0]);
            for (int w = 0; w < 6; w++) {
                due("judged " + w + " " + text, x.judged(w), all[w + 1]);
            }
            for (int k = 0; k < p.cells(); k++) {
                due("judgedAt " + k + " " + text, x.judgedAt(k), all[7 + k]);
            }
        }
    }

    private static int firstYes = 0;
    private static int firstNo = 0;

    private static void firsts(int most) {
        List<Integer> from = new ArrayList<>();
        for (int b = 0; b < p.barges.size(); b++) {
            if (p.barges.get(b)[0] == 0) {
                from.add(b);
            }
        }
        java.util.Collections.shuffle(from, dice);
        from = from.subList(0, Math.min(most, from.size()));
        if (from.isEmpty()) {
            return;
        }
        int[] due = p.first(from);
        int[] bytes = from.stream().mapToInt(Integer::intValue).toArray();
        due("first " + from, Calls.first(x, bytes), due == null ? 0 : 1);
        for (int k = 0; due != null && k < due.length; k++) {
            due("first " + from + " cell " + k, x.cell(k), due[k]);
        }
        firstYes += due == null ? 0 : 1;
        firstNo += due == null ? 1 : 0;
    }

    private static int bestYes = 0;
    private static int bestNo = 0;

    private static void bests() {
        int minute = roll(0, 1439);
        int best = p.best(minute, -1, -1, -1);
        due("best " + minute, x.best(minute), best);
        bestYes += best < 0 ? 0 : 1;
        bestNo += best < 0 ? 1 : 0;
        int leg = p.legs.isEmpty() ? -2 : -1;
        int least = -1;
        for (int k = 0; k < p.legs.size(); k++) {
            int minutes = p.best(minute, k, -1, -1);
            if (minutes >= 0 && (least < 0 || minutes < least)) {
                least = minutes;
                leg = k;
            }
        }
        due("hired " + minute, x.hired(minute), leg);
        if (leg >= 0) {
            due("hiredBy " + minute, x.hiredBy(), least);
        }
        for (int b = 0; b < p.barges.size(); b++) {
            boolean up = p.barges.get(b)[0] < p.barges.get(b)[1];
            due("vain " + b + " " + minute, x.vain(b, minute), up ? p.best(minute, -1, b, -1) : -2);
            due("without " + b + " " + minute, x.without(b, minute), p.best(minute, -1, -1, b));
        }
    }

    public static void main(String[] args) throws Plain.Fault {
        int many = args.length > 0 ? Integer.parseInt(args[0]) : 120;
        int seed = args.length > 1 ? Integer.parseInt(args[1]) : 1;
        dice = new Random(seed);
        for (int i = 0; i < many; i++) {
            faults();
            begin(8, 9, 24);
            told();
            for (int times = 0; times < 6; times++) {
                rafts();
            }
            plans();
            begin(4, 5, 9);
            plans();
            plans();
            begin(5, 9, 9);
            firsts(4);
            firsts(3);
            if (i % 8 == 0) {
                firsts(6);
            }
            begin(4, i % 4 == 0 ? 4 : 3, 6);
            bests();
        }
        System.out.println("first rafts: " + firstYes + " and " + firstNo + " without, best: " + bestYes + " and " + bestNo + " without");
        Due.close("PlainTest");
    }
}
