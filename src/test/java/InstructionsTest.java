/** Terms 1: what each OP does, at the edges of the numbers, and each END and TRAP. */
public final class InstructionsTest {
    private static final int LEAST = Integer.MIN_VALUE;
    private static final int MOST = Integer.MAX_VALUE;

    private InstructionsTest() {
    }

    private static int ofTwo(int op, int a, int b) {
        StageHost host = new StageHost();
        Words.give(host, Words.load(1, 0, 0), Words.load(2, 0, 1), Words.two(op, 3, 1, 2), Words.END);
        host.data(0, a);
        host.data(1, b);
        host.begin();
        Checks.due("OP " + op + ": run(100)", host.run(100), 1);
        return host.register(3);
    }

    private static int withNumber(int op, int a, int i) {
        StageHost host = new StageHost();
        Words.give(host, Words.load(1, 0, 0), Words.word(op, 3, 1, 7, i), Words.END);
        host.data(0, a);
        host.begin();
        Checks.due("OP " + op + ": run(100)", host.run(100), 1);
        return host.register(3);
    }

    private static void dueOfTwo(int op, int a, int b, int want) {
        Checks.due("OP " + op + " of " + a + ", " + b, ofTwo(op, a, b), want);
    }

    private static void dueWithNumber(int op, int a, int i, int want) {
        Checks.due("OP " + op + " of " + a + ", number " + i, withNumber(op, a, i), want);
    }

    private static void ofTwo() {
        dueOfTwo(0, 3, 4, 7);
        dueOfTwo(0, MOST, 1, LEAST);
        dueOfTwo(1, 3, 4, -1);
        dueOfTwo(1, LEAST, 1, MOST);
        dueOfTwo(2, 12, 10, 8);
        dueOfTwo(3, 12, 10, 14);
        dueOfTwo(4, 12, 10, 6);
        dueOfTwo(5, 3, 33, 6);
        dueOfTwo(5, 1, 31, LEAST);
        dueOfTwo(5, 5, -32, 5);
        dueOfTwo(6, -1, 28, 15);
        dueOfTwo(6, -1, 32, -1);
        dueOfTwo(7, -16, 2, -4);
        dueOfTwo(7, LEAST, 63, -1);
        dueOfTwo(8, -1, 0, 1);
        dueOfTwo(8, 0, -1, 0);
        dueOfTwo(8, 5, 5, 0);
        dueOfTwo(8, LEAST, MOST, 1);
        dueOfTwo(9, -1, 0, 0);
        dueOfTwo(9, 0, -1, 1);
        dueOfTwo(9, 5, 5, 0);
        dueOfTwo(9, LEAST, MOST, 0);
        dueOfTwo(10, -3, 5, -15);
        dueOfTwo(10, 65536, 65537, 65536);
        dueOfTwo(10, LEAST, -1, LEAST);
        dueOfTwo(11, -7, 2, -3);
        dueOfTwo(11, 7, -2, -3);
        dueOfTwo(11, 7, 0, -1);
        dueOfTwo(11, LEAST, -1, LEAST);
        dueOfTwo(11, LEAST, 0, -1);
        dueOfTwo(12, -7, 2, -1);
        dueOfTwo(12, 7, -2, 1);
        dueOfTwo(12, 7, 0, 7);
        dueOfTwo(12, LEAST, -1, 0);
        dueOfTwo(12, LEAST, 0, LEAST);
    }

    private static void withNumber() {
        dueWithNumber(16, 3, -4, -1);
        dueWithNumber(16, 0, 8191, 8191);
        dueWithNumber(16, 0, -8192, -8192);
        dueWithNumber(17, 3, -8192, 8195);
        dueWithNumber(18, -1, -2, -2);
        dueWithNumber(19, 1, -8192, -8191);
        dueWithNumber(20, 5, -1, -6);
        dueWithNumber(21, 3, 33, 6);
        dueWithNumber(22, -1, -4, 15);
        dueWithNumber(23, -16, 34, -4);
        dueWithNumber(24, -2, -1, 1);
        dueWithNumber(24, 0, -1, 0);
        dueWithNumber(25, 0, -1, 1);
        dueWithNumber(25, -1, -8192, 0);
        dueWithNumber(26, 77, 1, 1 << 18);
        dueWithNumber(26, 77, -8192, LEAST);
        dueWithNumber(26, 77, 8191, 8191 << 18);
    }

    private static void registerZero() {
        StageHost host = Words.host(Words.set(0, 5), Words.two(0, 1, 0, 0), Words.load(0, 0, 1),
            Words.jump(0, 1), Words.two(10, 0, 1, 1), Words.two(0, 2, 0, 0), Words.END);
        host.data(1, 9);
        host.begin();
        host.run(100);
        for (int k = 0; k < 3; k++) {
            Checks.due("register 0 is 0: register(" + k + ")", host.register(k), 0);
        }
    }

    private static void access() {
        StageHost host = Words.host(Words.set(1, -5), Words.set(2, 6), Words.store(1, 2, 5),
            Words.load(3, 1, 5), Words.set(2, 1023), Words.store(2, 1, 0), Words.load(4, 2, 0), Words.END);
        Checks.due("access: run(100)", host.run(100), 1);
        Checks.due("access: memory(0)", host.memory(0), 6);
        Checks.due("access: register(3)", host.register(3), 6);
        Checks.due("access: memory(1023)", host.memory(1023), -5);
        Checks.due("access: register(4)", host.register(4), -5);
    }

    private static void dueTrap(String what, StageHost host, int which, int pc) {
        Checks.due(what + ": run(1000)", host.run(1000), 2);
        Checks.due(what + ": how it ended", host.count(0), 2);
        Checks.due(what + ": which TRAP", host.count(6), which);
        Checks.due(what + ": PC", host.count(7), pc);
    }

    private static void trapsOfAccess() {
        for (int op = 32; op <= 33; op++) {
            dueTrap("OP " + op + " at -1", Words.host(Words.word(op, 1, 0, 0, -1)), 2, 0);
            dueTrap("OP " + op + " at 1024", Words.host(Words.word(op, 1, 0, 0, 1024)), 2, 0);
            // The most plus 1 wraps to the least, which is no word.
            StageHost most = Words.host(Words.load(1, 0, 0), Words.word(op, 2, 1, 0, 1), Words.END);
            most.data(0, MOST);
            most.begin();
            dueTrap("OP " + op + " behind the most", most, 2, 1);
            Checks.due("OP " + op + " behind the most: misses", most.count(4), 1);
        }
        StageHost none = Words.host(Words.set(1, 7), Words.load(1, 0, -1));
        dueTrap("a load that is a TRAP", none, 2, 1);
        Checks.due("a load that is a TRAP does nothing", none.register(1), 7);
    }

    private static void otherTraps() {
        for (int op = 0; op < 64; op++) {
            boolean known = op <= 12 || op >= 16 && op <= 26 || op == 32 || op == 33
                || op >= 40 && op <= 45 || op == 48 || op == 49;
            StageHost host = Words.host(Words.word(op, 1, 0, 0, 1), Words.END);
            if (known) {
                Checks.due("OP " + op + ": run(100)", host.run(100), 1);
                Checks.due("OP " + op + ": which TRAP", host.count(6), 0);
            } else {
                dueTrap("OP " + op, host, 1, 0);
                Checks.due("OP " + op + ": done", host.count(2), 0);
                Checks.due("OP " + op + " does nothing", host.register(1), 0);
            }
        }
        dueTrap("PC -3", Words.host(Words.jump(0, -3)), 3, -3);
        dueTrap("PC 1024", Words.host(Words.jump(0, 1024)), 3, 1024);
        StageHost far = Words.host(Words.load(1, 0, 0), Words.jumpBy(2, 1, 1));
        far.data(0, MOST);
        far.begin();
        dueTrap("PC wraps", far, 3, LEAST);
        Checks.due("PC wraps: D", far.register(2), 2);
    }

    private static int whereFrom(int op, int a, int b) {
        StageHost host = new StageHost();
        Words.give(host, Words.load(1, 0, 0), Words.load(2, 0, 1), Words.branch(op, 1, 2, 5), Words.END);
        host.code(7, Words.END);
        host.data(0, a);
        host.data(1, b);
        host.begin();
        host.run(100);
        Checks.due("OP " + op + ": count(5)", host.count(5), host.count(7) == 7 ? 1 : 0);
        return host.count(7);
    }

    private static void branches() {
        int[][] pairs = {{4, 4}, {3, 4}, {4, 3}, {-1, 0}, {0, -1}, {LEAST, MOST}, {MOST, LEAST}};
        for (int[] p : pairs) {
            String of = " of " + p[0] + ", " + p[1];
            Checks.due("OP 40" + of, whereFrom(40, p[0], p[1]), p[0] == p[1] ? 7 : 3);
            Checks.due("OP 41" + of, whereFrom(41, p[0], p[1]), p[0] != p[1] ? 7 : 3);
            Checks.due("OP 42" + of, whereFrom(42, p[0], p[1]), p[0] < p[1] ? 7 : 3);
            Checks.due("OP 43" + of, whereFrom(43, p[0], p[1]), p[0] >= p[1] ? 7 : 3);
        }
    }

    private static void jumps() {
        StageHost host = Words.host(Words.jump(3, 2), Words.END, Words.set(4, 1), Words.jumpBy(4, 4, 5),
            Words.END, Words.END, Words.END);
        Checks.due("jumps: run(100)", host.run(100), 1);
        Checks.due("OP 44: D", host.register(3), 1);
        Checks.due("OP 45: D, which is A too", host.register(4), 4);
        Checks.due("OP 45: where", host.count(7), 6);
        StageHost back = Words.host(Words.jump(0, 3), Words.set(5, 9), Words.END, Words.jump(6, -2));
        back.run(100);
        Checks.due("OP 44 back: register(5)", back.register(5), 9);
        Checks.due("OP 44 back: D", back.register(6), 4);
    }

    public static void main(String[] args) {
        ofTwo();
        withNumber();
        registerZero();
        access();
        trapsOfAccess();
        otherTraps();
        branches();
        jumps();
        Checks.end();
    }
}
