/** All that can be asked of an object, told as a text, to see whether a call changed anything. */
final class Looks {
    private Looks() {
    }

    /** RIVER, RAFT, WATER and PLAN: what an image keeps. */
    static String kept(BargeRaft x) {
        StringBuilder s = new StringBuilder();
        for (int w = 0; w < 9; w++) {
            s.append(w == 7 ? 0 : x.count(w)).append(w == 8 ? ';' : ',');
        }
        for (int q = 0; q < x.count(0); q++) {
            for (int w = 0; w < 3; w++) {
                s.append(x.quay(q, w)).append(w == 2 ? ';' : ',');
            }
        }
        for (int k = 0; k < x.count(1); k++) {
            for (int w = 0; w < 7; w++) {
                s.append(x.leg(k, w)).append(w == 6 ? ';' : ',');
            }
        }
        for (int b = 0; b < x.count(2); b++) {
            for (int w = 0; w < 6; w++) {
                s.append(x.barge(b, w)).append(w == 5 ? ';' : ',');
            }
        }
        for (int i = 0; i < x.count(5); i++) {
            for (int w = 0; w < 4; w++) {
                s.append(x.act(i, w)).append(w == 3 ? ';' : ',');
            }
        }
        return s.append(raft(x)).toString();
    }

    static String raft(BargeRaft x) {
        StringBuilder s = new StringBuilder("raft");
        for (int k = 0; k < x.count(3) * x.count(4); k++) {
            s.append(' ').append(x.cell(k));
        }
        return s.toString();
    }

    /** What the calls that tell of a latest call tell, but for fault(). */
    static String told(BargeRaft x) {
        return "taken" + taken(x) + " passed " + x.passedBy() + " judged" + judged(x) + " hired " + x.hiredBy();
    }

    static String taken(BargeRaft x) {
        StringBuilder s = new StringBuilder();
        for (int w = 0; w < 4; w++) {
            s.append(' ').append(x.takenBy(w));
        }
        return s.toString();
    }

    static String judged(BargeRaft x) {
        StringBuilder s = new StringBuilder();
        for (int w = 0; w < 6; w++) {
            s.append(' ').append(x.judged(w));
        }
        for (int k = 0; k < 24; k++) {
            s.append(' ').append(x.judgedAt(k));
        }
        return s.toString();
    }

    static String all(BargeRaft x) {
        return kept(x) + " " + told(x) + " fault " + x.fault() + " tape " + x.count(7);
    }
}
