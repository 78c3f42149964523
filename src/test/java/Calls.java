/** Texts and rows of bytes put on an object's tape, and the call that reads them. */
final class Calls {
    private Calls() {
    }

    static void tape(BargeRaft x, byte[] bytes) {
        int before = x.count(7);
        for (int at = 0; at < bytes.length; at += 20) {
            int[] five = new int[5];
            for (int i = 0; i < 20 && at + i < bytes.length; i++) {
                five[i / 4] |= (bytes[at + i] & 255) << 24 - i % 4 * 8;
            }
            x.feed(five[0], five[1], five[2], five[3], five[4]);
        }
        x.end(before + bytes.length);
    }

    static void tape(BargeRaft x, String text) {
        tape(x, text.getBytes(java.nio.charset.StandardCharsets.ISO_8859_1));
    }

    static void tape(BargeRaft x, int... row) {
        byte[] bytes = new byte[row.length];
        for (int i = 0; i < row.length; i++) {
            bytes[i] = (byte) row[i];
        }
        tape(x, bytes);
    }

    static int river(BargeRaft x, String text) {
        tape(x, text);
        return x.river();
    }

    static int plan(BargeRaft x, String text) {
        tape(x, text);
        return x.plan();
    }

    static int lay(BargeRaft x, int... row) {
        tape(x, row);
        return x.lay();
    }

    static int first(BargeRaft x, int... row) {
        tape(x, row);
        return x.first();
    }

    static BargeRaft on(String river) {
        BargeRaft x = new BargeRaft();
        if (river(x, river) < 0) {
            throw new IllegalArgumentException("fault " + x.fault() + " in " + river);
        }
        return x;
    }
}
