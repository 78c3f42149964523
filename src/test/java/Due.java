import java.util.NoSuchElementException;

/** Compares answers with those that are due, and counts. */
final class Due {
    private static int wrong = 0;
    private static int asked = 0;
    private static int sentences = 0;
    private static String sentence = "";

    interface Call {
        void run();
    }

    private Due() {
    }

    /** The sentence of the document to which the answers from here on belong. */
    static void says(String words) {
        sentences++;
        sentence = "'" + words + "': ";
    }

    static void due(String what, long got, long want) {
        asked++;
        if (got != want) {
            wrong++;
            System.out.println(sentence + what + " answered " + got + ", due is " + want);
        }
    }

    static void due(String what, boolean got, boolean want) {
        due(what, got ? 1 : 0, want ? 1 : 0);
    }

    static void same(String what, String got, String want) {
        asked++;
        if (!got.equals(want)) {
            wrong++;
            System.out.println(sentence + what + ": " + got + " where it was " + want);
        }
    }

    static void missing(String what, Call call) {
        int thrown = 0;
        try {
            call.run();
        } catch (NoSuchElementException e) {
            thrown = 1;
        }
        due(what + " throws", thrown, 1);
    }

    static void close(String test) {
        String of = sentences > 0 ? " to " + sentences + " sentences" : "";
        System.out.println(test + ": " + asked + " answers" + of + ", " + wrong + " wrong");
        if (wrong > 0 || asked == 0) {
            System.exit(1);
        }
    }
}
