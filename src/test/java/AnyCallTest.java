import java.util.NoSuchElementException;
import java.util.Random;

/** Any calls with any arguments in any order: nothing is thrown but where the document says so. */
public final class AnyCallTest {
    private static final String[] TEXTS = {
        "", "quay a left;", "quay a both;quay b left;leg 4 6 9 9 9 lock 2 3;raft 4 6;barge x a b 1;barge y b a 2;",
        "quay a both;quay b left open 3 9;quay c right;leg 2 3 60 30 20;leg 2 2 30 25 10 lock 2 15;"
            + "barge x a b 10;barge y a c 20;barge z c a 5 apart y;raft 2 3;",
        "quay a both;quay b left;leg 3 3 9 9 9;barge p a b 1;barge q a b 1;barge r a b 1;barge s a b 1;barge t a b 1;",
        "on x 0 0;go;off x;", "on x 0 0;on y 1 0;go;off x;go;off y;on z 0 1;go;go;off z;", "on x 5 3;go;go;go;", "shift x 1 1;", "off y;go"};
    private static final int[] NUMBERS = {
        0, 1, 2, 3, 4, 5, 6, 7, 8, 9, 10, 23, 24, 25, 31, 32, 33, 60, 99, 100, 480, 1439, 1440, -1, -2, -32,
        Integer.MAX_VALUE, Integer.MIN_VALUE, Integer.MAX_VALUE - 1, Integer.MIN_VALUE + 1, 1 << 30};

    private static final Random DICE = new Random(5);

    private static int any() {
        return NUMBERS[DICE.nextInt(DICE.nextInt(4) == 0 ? NUMBERS.length : 8)];
    }

    private static void putBytes(BargeRaft x) {
        int many = DICE.nextInt(26);
        int[] row = new int[many];
        for (int i = 0; i < many; i++) {
            row[i] = DICE.nextInt(3) > 0 ? 0 : DICE.nextInt(DICE.nextInt(9) == 0 ? 256 : 5);
        }
        Calls.tape(x, row);
    }

    private static boolean maySayMissing(int call) {
        return call >= 4 && call <= 6 || call == 20;
    }

    private static long ask(BargeRaft x, int call) {
        int a = any();
        int b = any();
        switch (call) {
            case 0: return x.feed(a, b, a, b, a);
            case 1: return x.end(a) ? 1 : 0;
            case 2: return x.river();
            case 3: return x.fault();
            case 4: return x.quay(a, b);
            case 5: return x.leg(a, b);
            case 6: return x.barge(a, b);
            case 7: return x.lay();
            case 8: return x.cell(a);
            case 9: return x.knots();
            case 10: return x.taking(a, b);
            case 11: return x.takenBy(a);
            case 12: return x.sound();
            case 13: return x.fits(a);
            case 14: return x.passes(a);
            case 15: return x.passedBy();
            case 16: return x.deep(a, b);
            case 17: return x.water(a) ? 1 : 0;
            case 18: return x.plan();
            case 19: return x.judge(a);
            case 20: return x.act(a, b);
            case 21: return x.judged(a);
            case 22: return x.judgedAt(a);
            case 23: return x.first();
            case 24: return x.best(a);
            case 25: return x.hired(a);
            case 26: return x.hiredBy();
            case 27: return x.vain(a, b);
            case 28: return x.without(a, b);
            case 29: return x.image(a) ? 1 : 0;
            case 30: return x.restore(a) ? 1 : 0;
            default: return x.count(a);
        }
    }

    /** What a call that throws must leave alone. */
    private static String looks(BargeRaft x) {
        StringBuilder s = new StringBuilder();
        for (int i = 0; i < 24; i++) {
            s.append(x.count(i)).append(',').append(x.cell(i)).append(',').append(x.judgedAt(i)).append(' ');
        }
        for (int i = 0; i < 6; i++) {
            s.append(x.takenBy(i)).append(',').append(x.judged(i)).append(' ');
        }
        return s.append(x.fault()).append(' ').append(x.passedBy()).append(' ').append(x.hiredBy()).toString();
    }

    public static void main(String[] args) {
        for (int run = 0; run < 800; run++) {
            BargeRaft x = new BargeRaft();
            for (int i = 0; i < 200; i++) {
                if (DICE.nextInt(6) == 0) {
                    x.end(0);
                    Calls.tape(x, TEXTS[DICE.nextInt(TEXTS.length)]);
                    if (DICE.nextInt(2) == 0) {
                        Due.due("answer", x.river() >= -941 ? 1 : 0, 1);
                    } else {
                        Due.due("answer", x.plan() >= -941 ? 1 : 0, 1);
                    }
                } else if (DICE.nextInt(6) == 0) {
                    x.end(0);
                    putBytes(x);
                }
                int call = DICE.nextInt(32);
                String before = maySayMissing(call) ? looks(x) : "";
                String thrown = "";
                try {
                    ask(x, call);
                } catch (NoSuchElementException e) {
                    thrown = maySayMissing(call) && before.equals(looks(x)) ? "" : "NoSuchElementException";
                } catch (RuntimeException e) {
                    thrown = e.toString();
                }
                Due.due("call " + call + " threw " + thrown, thrown.isEmpty() ? 1 : 0, 1);
            }
        }
        Due.close("AnyCallTest");
    }
}
