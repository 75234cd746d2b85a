/** Counts and prints the answers that are not as due; each test ends with end(). */
final class Checks {
    /** A call that may throw. */
    interface Call {
        int answer();
    }

    /** A call without an answer. */
    interface Deed {
        void happen();
    }

    /** Of one sentence: a fault that many answers show does not hide the other sentences. */
    private static final int MOST_PRINTED = 20;

    private static int made = 0;
    private static int wrong = 0;
    private static int sentences = 0;
    private static String sentence = "";
    private static int printed = 0;

    private Checks() {
    }

    /** Looks at a sentence of the document by a test of its own, which no fault in another one ends. */
    static void sentence(String words, Deed test) {
        sentences++;
        sentence = "\"" + words + "\": ";
        printed = 0;
        int before = made;
        try {
            test.happen();
        } catch (RuntimeException e) {
            tellWrong("a call threw " + e);
        }
        // A test that looks at nothing would hold whatever the class does.
        if (made == before) {
            tellWrong("no answer was looked at");
        }
        sentence = "";
    }

    private static void tellWrong(String what) {
        wrong++;
        printed++;
        if (printed <= MOST_PRINTED) {
            System.out.println(sentence + what);
        }
    }

    static void due(String what, long got, long want) {
        made++;
        if (got != want) {
            tellWrong(what + " answered " + got + ", due is " + want);
        }
    }

    static void dueThrow(String what, Class<? extends RuntimeException> want, Call call) {
        String got = "nothing";
        try {
            call.answer();
        } catch (RuntimeException e) {
            got = e.getClass().getName();
        }
        made++;
        if (!got.equals(want.getName())) {
            tellWrong(what + " threw " + got + ", due is " + want.getName());
        }
    }

    static void dueThrow(String what, Class<? extends RuntimeException> want, Deed deed) {
        dueThrow(what, want, (Call) () -> {
            deed.happen();
            return 0;
        });
    }

    static void end() {
        String of = sentences == 0 ? "" : " for " + sentences + " sentences";
        System.out.println(made + " answers looked at" + of + ", " + wrong + " not as due");
        if (wrong != 0 || made == 0) {
            System.exit(1);
        }
    }
}
