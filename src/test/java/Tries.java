/** Small programs that several tests run, with the answers that are due of them. */
final class Tries {
    static final int LEAST = Integer.MIN_VALUE;
    static final int MOST = Integer.MAX_VALUE;
    /** Long enough for every program here that ends. */
    private static final int LONG = 10000;

    private Tries() {
    }

    /** Begins anew with these words of DATA from 0 on. */
    static StageHost withData(StageHost host, int... data) {
        for (int k = 0; k < data.length; k++) {
            host.data(k, data[k]);
        }
        host.begin();
        return host;
    }

    static void dueOfTwo(int op, int a, int b, int want) {
        StageHost host = Words.host(Words.load(1, 0, 0), Words.load(2, 0, 1), Words.two(op, 3, 1, 2), Words.END);
        withData(host, a, b);
        String what = "OP " + op + " of " + a + ", " + b;
        Checks.due(what + ": run", host.run(LONG), 1);
        Checks.due(what, host.register(3), want);
    }

    static void dueWithNumber(int op, int a, int i, int want) {
        StageHost host = Words.host(Words.load(1, 0, 0), Words.word(op, 3, 1, 7, i), Words.END);
        withData(host, a);
        String what = "OP " + op + " of " + a + ", number " + i;
        Checks.due(what + ": run", host.run(LONG), 1);
        Checks.due(what, host.register(3), want);
    }

    static void dueTrap(String what, StageHost host, int which, int pc) {
        Checks.due(what + ": run", host.run(LONG), 2);
        Checks.due(what + ": how it ended", host.count(0), 2);
        Checks.due(what + ": which TRAP", host.count(6), which);
        Checks.due(what + ": PC", host.count(7), pc);
    }

    /** It may not end before, and must end in, the cycle that is due. */
    static StageHost dueEndOf(String what, int cycle, StageHost host) {
        for (int k = 1; k < cycle; k++) {
            Checks.due(what + ": cycle " + k, host.run(1), 0);
        }
        Checks.due(what + ": goes on in cycle " + cycle, host.run(1) == 0 ? 1 : 0, 0);
        Checks.due(what + ": cycles", host.count(1), cycle);
        return host;
    }

    static StageHost dueEnd(String what, int cycle, int... words) {
        return dueEndOf(what, cycle, Words.host(words));
    }

    static void dueWrongOf(String what, int wrong, StageHost host) {
        Checks.due(what + ": run", host.run(LONG), 1);
        Checks.due(what + ": wrong guesses", host.count(3), wrong);
    }

    static void dueWrong(String what, int wrong, int... words) {
        dueWrongOf(what, wrong, Words.host(words));
    }

    /** Words of DATA loaded one after the other by 32, from PC 0 on. */
    static void dueMisses(String what, int misses, int... loaded) {
        StageHost host = new StageHost();
        for (int k = 0; k < loaded.length; k++) {
            host.code(k, Words.load(1, 0, loaded[k]));
        }
        host.code(loaded.length, Words.END);
        host.begin();
        Checks.due(what + ": run", host.run(LONG), 1);
        Checks.due(what + ": misses", host.count(4), misses);
    }

    /** As behind a begin() with DATA 0; looks at 27 answers of the object, and at 27 calls of it. */
    static void dueAnew(String what, StageHost host) {
        for (int k = 0; k < 9; k++) {
            Checks.due(what + ": count(" + k + ")", host.count(k), k == 7 ? -1 : 0);
        }
        for (int k = 0; k < 16; k++) {
            Checks.due(what + ": register(" + k + ")", host.register(k), 0);
        }
        Checks.dueThrow(what + ": output(0)", IndexOutOfBoundsException.class, () -> host.output(0));
        Checks.due(what + ": run(0)", host.run(0), 0);
    }
}
