import java.util.ArrayList;
import java.util.Arrays;
import java.util.Comparator;
import java.util.HashMap;
import java.util.HashSet;
import java.util.LinkedHashMap;
import java.util.List;
import java.util.Map;
import java.util.PriorityQueue;
import java.util.Set;
import java.util.TreeSet;

/** The document said once more, word by word and slowly, to compare the program with. */
final class Plain {
    static final class Fault extends Exception {
        private static final long serialVersionUID = 1L;
        final int kind;
        final int place;

        Fault(int kind, int place) {
            this.kind = kind;
            this.place = place;
        }
    }

    private record Token(int place, String text, char sort) {
    }

    static final Set<String> WORDS = Set.of("quay", "left", "right", "both", "open", "leg", "lock", "barge", "apart",
        "raft", "knot", "hold", "turn", "off", "on", "shift", "go");

    final List<int[]> quays = new ArrayList<>();
    final List<int[]> legs = new ArrayList<>();
    final List<int[]> barges = new ArrayList<>();
    final Set<List<Integer>> apart = new HashSet<>();
    final Map<String, Integer> quayNames = new LinkedHashMap<>();
    final Map<String, Integer> bargeNames = new LinkedHashMap<>();
    int broad = 3;
    int rows = 3;
    int knot = 5;
    int hold = 3;
    int turn = 10;
    int lines = 0;
    int water = 0;
    List<int[]> acts = new ArrayList<>();

    // ---- texts

    private List<Token> tokens;
    private int at;

    private static List<Token> tokens(String text, int most) {
        List<Token> all = new ArrayList<>();
        int i = 0;
        while (i < text.length() && i < most) {
            String rest = text.substring(i);
            if (rest.matches("(?s)[ \n].*")) {
                i++;
                continue;
            }
            String run = rest.replaceFirst("(?s)[^a-z0-9].*", "");
            if (run.isEmpty()) {
                all.add(new Token(i, rest.substring(0, 1), rest.charAt(0) == ';' ? ';' : '?'));
                i++;
            } else {
                char sort = run.matches("[a-z]{1,6}") ? 'w' : run.matches("[0-9]{1,4}") ? 'n' : '?';
                all.add(new Token(i, run, sort));
                i += run.length();
            }
        }
        all.add(new Token(Math.min(most, text.length()), "", 'e'));
        return all;
    }

    private Token next() {
        return tokens.get(at);
    }

    private Token want(boolean good) throws Fault {
        if (!good) {
            throw new Fault(1, next().place);
        }
        return tokens.get(at++);
    }

    private int number(int least, int most) throws Fault {
        Token t = want(next().sort == 'n');
        int n = Integer.parseInt(t.text);
        if (n < least || n > most) {
            throw new Fault(2, t.place);
        }
        return n;
    }

    private Token name() throws Fault {
        return want(next().sort == 'w' && !WORDS.contains(next().text));
    }

    private void setting(Set<String> told, Token t) throws Fault {
        if (!told.add(t.text)) {
            throw new Fault(3, t.place);
        }
    }

    void readRiver(String text) throws Fault {
        tokens = tokens(text, 900);
        at = 0;
        Set<String> told = new HashSet<>();
        while (next().sort != 'e') {
            Token t = want(Set.of("quay", "leg", "barge", "raft", "knot", "hold", "turn").contains(next().text));
            if (t.text.equals("quay")) {
                quayLine(t);
            } else if (t.text.equals("leg")) {
                legLine(t);
            } else if (t.text.equals("barge")) {
                bargeLine(t);
            } else {
                setting(told, t);
                if (t.text.equals("raft")) {
                    broad = number(1, 4);
                    rows = number(1, 6);
                } else if (t.text.equals("knot")) {
                    knot = number(1, 60);
                } else if (t.text.equals("hold")) {
                    hold = number(0, 60);
                } else {
                    turn = number(0, 60);
                }
            }
            want(next().text.equals(";"));
            lines++;
        }
        if (text.length() > 900 || legs.size() < Math.max(0, quays.size() - 1)) {
            throw new Fault(1, next().place);
        }
    }

    private void newName(Map<String, Integer> names) throws Fault {
        Token t = name();
        if (quayNames.containsKey(t.text) || bargeNames.containsKey(t.text)) {
            throw new Fault(3, t.place);
        }
        names.put(t.text, names.size());
    }

    private void quayLine(Token line) throws Fault {
        if (quays.size() == 8) {
            throw new Fault(4, line.place);
        }
        newName(quayNames);
        Token side = want(Set.of("left", "right", "both").contains(next().text));
        int[] quay = {side.text.equals("left") ? 1 : side.text.equals("right") ? 2 : 3, 0, 1440};
        if (next().text.equals("open")) {
            at++;
            quay[1] = number(0, 1439);
            quay[2] = number(quay[1] + 1, 1440);
        }
        quays.add(quay);
    }

    private void legLine(Token line) throws Fault {
        if (legs.size() + 1 > quays.size() - 1) {
            throw new Fault(4, line.place);
        }
        int[] leg = {number(1, 4), number(1, 6), number(1, 999), number(0, 99), number(0, 99), 0, 0};
        if (next().text.equals("lock")) {
            at++;
            leg[5] = number(1, 9);
            leg[6] = number(1, 99);
        }
        legs.add(leg);
    }

    private int quayName() throws Fault {
        Token t = name();
        if (!quayNames.containsKey(t.text)) {
            throw new Fault(3, t.place);
        }
        return quayNames.get(t.text);
    }

    private void bargeLine(Token line) throws Fault {
        int b = barges.size();
        if (b == 9) {
            throw new Fault(4, line.place);
        }
        newName(bargeNames);
        int from = quayName();
        int place = next().place;
        int to = quayName();
        if (to == from) {
            throw new Fault(3, place);
        }
        int draft = number(0, 99);
        Set<Integer> here = new HashSet<>();
        while (next().text.equals("apart")) {
            at++;
            Token t = name();
            Integer other = bargeNames.get(t.text);
            if (other == null || other == b || !here.add(other)) {
                throw new Fault(3, t.place);
            }
            apart.add(List.of(b, other));
            apart.add(List.of(other, b));
        }
        barges.add(new int[] {from, to, draft});
    }

    List<int[]> readPlan(String text) throws Fault {
        tokens = tokens(text, 600);
        at = 0;
        List<int[]> plan = new ArrayList<>();
        List<String> kinds = List.of("off", "on", "shift", "go");
        while (next().sort != 'e') {
            Token t = want(kinds.contains(next().text));
            if (plan.size() == 60) {
                throw new Fault(4, t.place);
            }
            int[] act = {kinds.indexOf(t.text), -1, -1, -1};
            if (act[0] != 3) {
                Token b = name();
                if (!bargeNames.containsKey(b.text)) {
                    throw new Fault(3, b.place);
                }
                act[1] = bargeNames.get(b.text);
            }
            if (act[0] == 1 || act[0] == 2) {
                act[2] = number(0, 5);
                act[3] = number(0, 3);
            }
            want(next().text.equals(";"));
            plan.add(act);
        }
        if (text.length() > 600) {
            throw new Fault(1, 600);
        }
        return plan;
    }

    // ---- rafts: a row of cells, -1 where nothing is

    int cells() {
        return broad * rows;
    }

    int[] emptyRaft() {
        int[] raft = new int[cells()];
        Arrays.fill(raft, -1);
        return raft;
    }

    private boolean share(int k, int l) {
        return Math.abs(k / broad - l / broad) + Math.abs(k % broad - l % broad) == 1;
    }

    /** Pairs of cells with barges that share a side. */
    List<int[]> knots(int[] raft) {
        List<int[]> all = new ArrayList<>();
        for (int k = 0; k < raft.length; k++) {
            for (int l = k + 1; l < raft.length; l++) {
                if (raft[k] >= 0 && raft[l] >= 0 && share(k, l)) {
                    all.add(new int[] {k, l});
                }
            }
        }
        return all;
    }

    private boolean onWay(int way, int cell, int other) {
        boolean row = cell / broad == other / broad;
        boolean column = cell % broad == other % broad;
        return way == 0 ? row && other < cell : way == 1 ? row && other > cell : column && other > cell;
    }

    /** Minutes, way, untied, tied, blockers. */
    int[] take(int[] raft, int cell, int side) {
        int[] least = null;
        for (int way = 0; way < 3; way++) {
            if (way == 0 && side == 2 || way == 1 && side == 1) {
                continue;
            }
            Set<Integer> blockers = new HashSet<>();
            for (int k = 0; k < raft.length; k++) {
                if (raft[k] >= 0 && onWay(way, cell, k)) {
                    blockers.add(k);
                }
            }
            int untied = 0;
            int tied = 0;
            for (int[] pair : knots(raft)) {
                boolean own = pair[0] == cell || pair[1] == cell;
                boolean theirs = blockers.contains(pair[0]) || blockers.contains(pair[1]);
                untied += own || theirs ? 1 : 0;
                tied += theirs && !own ? 1 : 0;
            }
            int minutes = knot * (untied + tied) + hold * blockers.size() + (way == 2 ? turn : 0);
            if (least == null || minutes < least[0]) {
                least = new int[] {minutes, way, untied, tied, blockers.size()};
            }
        }
        return least;
    }

    boolean sound(int[] raft) {
        Set<Integer> all = new TreeSet<>();
        for (int k = 0; k < raft.length; k++) {
            if (raft[k] >= 0) {
                all.add(k);
            }
        }
        for (int[] pair : knots(raft)) {
            if (apart.contains(List.of(raft[pair[0]], raft[pair[1]]))) {
                return false;
            }
        }
        if (all.isEmpty()) {
            return true;
        }
        List<Integer> reached = new ArrayList<>(List.of(all.iterator().next()));
        for (int i = 0; i < reached.size(); i++) {
            for (int k : all) {
                if (share(reached.get(i), k) && !reached.contains(k)) {
                    reached.add(k);
                }
            }
        }
        return reached.size() == all.size();
    }

    boolean fits(int[] raft, int leg, int more) {
        TreeSet<Integer> columns = new TreeSet<>();
        TreeSet<Integer> lines = new TreeSet<>();
        for (int k = 0; k < raft.length; k++) {
            if (raft[k] >= 0) {
                columns.add(k % broad);
                lines.add(k / broad);
            }
        }
        if (columns.isEmpty()) {
            return true;
        }
        int[] told = legs.get(leg);
        int wide = columns.last() - columns.first() + 1;
        if (wide > told[0] + more || lines.last() - lines.first() + 1 > told[1] + more) {
            return false;
        }
        for (int k = 0; k < raft.length; k++) {
            if (raft[k] < 0) {
                continue;
            }
            int draft = barges.get(raft[k])[2];
            boolean edge = wide == told[0] + more && (k % broad == columns.first() || k % broad == columns.last());
            if (draft > told[3] - water || edge && draft > told[4] - water) {
                return false;
            }
        }
        return true;
    }

    /** Times and knots; null if it does not pass. All ways to part the rows are tried. */
    int[] passes(int[] raft, int leg) {
        int most = legs.get(leg)[5];
        if (most == 0) {
            return new int[] {0, 0};
        }
        int[] best = null;
        for (int cuts = 0; cuts < 1 << rows - 1; cuts++) {
            int[] group = new int[rows];
            for (int r = 1; r < rows; r++) {
                group[r] = group[r - 1] + (cuts >> r - 1 & 1);
            }
            int[] load = new int[rows];
            for (int k = 0; k < raft.length; k++) {
                load[group[k / broad]] += raft[k] >= 0 ? 1 : 0;
            }
            if (Arrays.stream(load).max().getAsInt() > most) {
                continue;
            }
            int cut = 0;
            for (int[] pair : knots(raft)) {
                cut += group[pair[0] / broad] != group[pair[1] / broad] ? 1 : 0;
            }
            int times = group[rows - 1] + 1;
            if (best == null || times < best[0] || times == best[0] && cut < best[1]) {
                best = new int[] {times, cut};
            }
        }
        return best;
    }

    int goMinutes(int[] raft, int leg) {
        int[] by = passes(raft, leg);
        return legs.get(leg)[2] + by[0] * legs.get(leg)[6] + 2 * knot * by[1];
    }

    int deep(int b, int leg) {
        int draft = barges.get(b)[2];
        return draft > legs.get(leg)[3] - water ? 0 : draft > legs.get(leg)[4] - water ? 1 : 2;
    }

    // ---- the way

    int stops() {
        return quays.isEmpty() ? 0 : 2 * (quays.size() - 1) + 1;
    }

    int quayAt(int stop) {
        return stop < quays.size() ? stop : 2 * (quays.size() - 1) - stop;
    }

    int legFrom(int stop) {
        return Math.min(quayAt(stop), quayAt(stop + 1));
    }

    private int stopOf(int quay, boolean up) {
        return up ? quay : 2 * (quays.size() - 1) - quay;
    }

    int onStop(int b) {
        int[] t = barges.get(b);
        return stopOf(t[0], t[0] < t[1]);
    }

    int offStop(int b) {
        int[] t = barges.get(b);
        return stopOf(t[1], t[0] < t[1]);
    }

    int waitAt(int quay, int minute) {
        int wait = 0;
        while ((minute + wait) % 1440 < quays.get(quay)[1] || (minute + wait) % 1440 >= quays.get(quay)[2]) {
            wait++;
        }
        return wait;
    }

    /** Answer, why, minutes, stop, untied, tied, waited; then the cells. */
    int[] judge(List<int[]> plan, int begun) {
        int[] raft = emptyRaft();
        Set<Integer> came = new HashSet<>();
        Set<Integer> gone = new HashSet<>();
        boolean worked = false;
        int minute = begun;
        int stop = 0;
        int untied = 0;
        int tied = 0;
        int waited = 0;
        int answer = -3;
        int why = 0;
        for (int i = 0; i < plan.size() && answer == -3; i++) {
            int[] act = plan.get(i);
            why = wrong(act, raft, stop, came, gone);
            if (why != 0) {
                answer = i;
                continue;
            }
            if (act[0] == 3) {
                minute += goMinutes(raft, legFrom(stop));
                stop++;
                worked = false;
                continue;
            }
            int quay = quayAt(stop);
            if (!worked) {
                int wait = waitAt(quay, minute);
                waited += wait;
                minute += wait;
                worked = true;
            }
            if (act[0] != 1) {
                int cell = where(raft, act[1]);
                int[] by = take(raft, cell, quays.get(quay)[0]);
                minute += by[0];
                untied += by[2];
                tied += by[3];
                raft[cell] = -1;
            }
            if (act[0] == 0) {
                gone.add(act[1]);
            } else {
                int cell = act[2] * broad + act[3];
                raft[cell] = act[1];
                came.add(act[1]);
                int[] by = take(raft, cell, quays.get(quay)[0]);
                minute += by[0];
                untied += by[3];
                tied += by[2];
            }
        }
        if (answer == -3) {
            answer = stop == stops() - 1 && !due(stop, came, gone) ? -1 : plan.size();
        }
        int[] all = Arrays.copyOf(new int[] {answer, why, minute - begun, stop, untied, tied, waited}, 7 + raft.length);
        System.arraycopy(raft, 0, all, 7, raft.length);
        return all;
    }

    static int where(int[] raft, int b) {
        for (int k = 0; k < raft.length; k++) {
            if (raft[k] == b) {
                return k;
            }
        }
        return -1;
    }

    private boolean due(int stop, Set<Integer> came, Set<Integer> gone) {
        for (int b = 0; b < barges.size(); b++) {
            if (onStop(b) == stop && !came.contains(b) || offStop(b) == stop && !gone.contains(b)) {
                return true;
            }
        }
        return false;
    }

    private int wrong(int[] act, int[] raft, int stop, Set<Integer> came, Set<Integer> gone) {
        int b = act[1];
        boolean aboard = b >= 0 && where(raft, b) >= 0;
        boolean cellGood = act[2] >= 0 && act[2] < rows && act[3] < broad && raft[act[2] * broad + act[3]] < 0;
        if (act[0] == 0) {
            return !aboard ? 1 : offStop(b) != stop ? 2 : 0;
        }
        if (act[0] == 1) {
            return onStop(b) != stop || came.contains(b) ? 1 : !cellGood ? 3 : 0;
        }
        if (act[0] == 2) {
            return !aboard ? 1 : !cellGood ? 3 : 0;
        }
        if (stop == stops() - 1) {
            return 4;
        }
        if (due(stop, came, gone)) {
            return 5;
        }
        if (!sound(raft)) {
            return 6;
        }
        if (!fits(raft, legFrom(stop), 0)) {
            return 7;
        }
        return passes(raft, legFrom(stop)) == null ? 8 : 0;
    }

    // ---- looking through all

    /** The first raft, null if there is none; every seating is tried whole. */
    int[] first(List<Integer> order) {
        int[] raft = emptyRaft();
        return seat(order, 0, raft) ? raft : null;
    }

    private boolean seat(List<Integer> order, int i, int[] raft) {
        if (i == order.size()) {
            return goesWell(raft.clone());
        }
        for (int k = 0; k < raft.length; k++) {
            if (raft[k] < 0) {
                raft[k] = order.get(i);
                if (seat(order, i + 1, raft)) {
                    return true;
                }
                raft[k] = -1;
            }
        }
        return false;
    }

    private boolean goesWell(int[] raft) {
        for (int q = 1; q < quays.size(); q++) {
            if (Arrays.stream(raft).allMatch(b -> b < 0)) {
                return true;
            }
            if (!sound(raft) || !fits(raft, q - 1, 0) || passes(raft, q - 1) == null || !allOff(raft, q)) {
                return false;
            }
            for (int k = 0; k < raft.length; k++) {
                if (raft[k] >= 0 && barges.get(raft[k])[1] == q) {
                    raft[k] = -1;
                }
            }
        }
        return true;
    }

    /** Whether some order does it: all orders are tried. */
    private boolean allOff(int[] raft, int q) {
        boolean any = false;
        for (int k = 0; k < raft.length; k++) {
            if (raft[k] < 0 || barges.get(raft[k])[1] != q) {
                continue;
            }
            any = true;
            int side = quays.get(q)[0];
            boolean clear = false;
            for (int way = 0; way < 3; way++) {
                boolean there = way == 2 || (way == 0 ? side != 2 : side != 1);
                boolean blocked = false;
                for (int l = 0; l < raft.length; l++) {
                    blocked |= raft[l] >= 0 && onWay(way, k, l);
                }
                clear |= there && !blocked;
            }
            if (clear) {
                int[] less = raft.clone();
                less[k] = -1;
                if (allOff(less, q)) {
                    return true;
                }
            }
        }
        return !any;
    }

    private record Spot(int minute, int stop, boolean worked, List<Integer> raft) {
    }

    /** The fewest minutes, act by act; -1 if no plan ends. A barge may be in vain or left out (-1: none). */
    int best(int begun, int hired, int vain, int out) {
        int last = stops() - 1;
        int many = barges.size();
        int[] on = new int[many];
        int[] off = new int[many];
        for (int b = 0; b < many; b++) {
            on[b] = b == out ? -9 : onStop(b);
            off[b] = b == out ? -9 : b == vain ? stopOf(barges.get(b)[1], false) : offStop(b);
        }
        PriorityQueue<Spot> open = new PriorityQueue<>(Comparator.comparingInt(Spot::minute));
        Map<String, Integer> seen = new HashMap<>();
        List<Integer> none = new ArrayList<>();
        for (int k = 0; k < cells(); k++) {
            none.add(-1);
        }
        open.add(new Spot(begun, 0, false, none));
        while (!open.isEmpty()) {
            Spot s = open.poll();
            if (seen.putIfAbsent(s.stop + " " + s.worked + " " + s.raft, s.minute) != null) {
                continue;
            }
            int[] raft = s.raft.stream().mapToInt(Integer::intValue).toArray();
            boolean due = false;
            for (int b = 0; b < many; b++) {
                boolean aboard = where(raft, b) >= 0;
                due |= on[b] == s.stop && !aboard || off[b] == s.stop && aboard;
            }
            if (s.stop == last && !due) {
                return s.minute - begun;
            }
            if (s.stop < last && !due) {
                int leg = legFrom(s.stop);
                if (sound(raft) && fits(raft, leg, leg == hired ? 1 : 0) && passes(raft, leg) != null) {
                    open.add(new Spot(s.minute + goMinutes(raft, leg), s.stop + 1, false, s.raft));
                }
            }
            int quay = quayAt(s.stop);
            int side = quays.get(quay)[0];
            int start = s.minute + (s.worked ? 0 : waitAt(quay, s.minute));
            for (int b = 0; b < many; b++) {
                int cell = where(raft, b);
                int taken = cell >= 0 ? take(raft, cell, side)[0] : 0;
                List<Integer> without = new ArrayList<>(s.raft);
                if (cell >= 0) {
                    without.set(cell, -1);
                    if (off[b] == s.stop) {
                        open.add(new Spot(start + taken, s.stop, true, without));
                    }
                } else if (on[b] != s.stop) {
                    continue;
                }
                for (int k = 0; k < raft.length; k++) {
                    if (raft[k] < 0) {
                        List<Integer> then = new ArrayList<>(without);
                        then.set(k, b);
                        int[] row = then.stream().mapToInt(Integer::intValue).toArray();
                        open.add(new Spot(start + taken + take(row, k, side)[0], s.stop, true, then));
                    }
                }
            }
        }
        return -1;
    }
}
