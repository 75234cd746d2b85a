/** Counts and prints the answers that are not as due; each test ends with end(). */
final class Checks {
    /** A call that may throw. */
    interface Call {
        int answer();
    }

    /** A call without an answer. */
    interface Deed {
        void happen();
    }

    private static int made = 0;
    private static int wrong = 0;

    private Checks() {
    }

    static void due(String what, long got, long want) {
        made++;
        if (got != want) {
            wrong++;
            if (wrong <= 40) {
                System.out.println(what + " answered " + got + ", due is " + want);
            }
        }
    }

    static void dueThrow(String what, Class<? extends RuntimeException> want, Call call) {
        String got = "nothing";
        try {
            call.answer();
        } catch (RuntimeException e) {
            got = e.getClass().getName();
        }
        made++;
        if (!got.equals(want.getName())) {
            wrong++;
            System.out.println(what + " threw " + got + ", due is " + want.getName());
        }
    }

    static void dueThrow(String what, Class<? extends RuntimeException> want, Deed deed) {
        dueThrow(what, want, (Call) () -> {
            deed.happen();
            return 0;
        });
    }

    static void end() {
        System.out.println(made + " answers looked at, " + wrong + " not as due");
        if (wrong != 0 || made == 0) {
            System.exit(1);
        }
    }
}
