/** Promises 1 to 9, one method each: ordinary calls, the edges that are named, wrong inputs. */
public final class PromisesTest {
    private static final Class<IndexOutOfBoundsException> INDEX = IndexOutOfBoundsException.class;
    private static final Class<IllegalArgumentException> ARGUMENT = IllegalArgumentException.class;
    private static final int[] NO_WORDS = {-1, 1024, Integer.MIN_VALUE, Integer.MAX_VALUE};

    private PromisesTest() {
    }

    private static void dueAnew(String what, StageHost host) {
        for (int k = 0; k < 9; k++) {
            Checks.due(what + ": count(" + k + ")", host.count(k), k == 7 ? -1 : 0);
        }
        for (int k = 0; k < 16; k++) {
            Checks.due(what + ": register(" + k + ")", host.register(k), 0);
        }
        Checks.dueThrow(what + ": output(0)", INDEX, () -> host.output(0));
    }

    private static void aNewObject() {
        StageHost host = new StageHost();
        dueAnew("a new object", host);
        for (int k = 0; k < 1024; k++) {
            Checks.due("a new object: memory(" + k + ")", host.memory(k), 0);
        }
        // CODE 0 is 1024 additions to register 0, then no word: the 1025th has W in cycle 1029.
        Checks.due("CODE 0: run(1028)", host.run(1028), 0);
        Checks.due("CODE 0: done", host.count(2), 1024);
        Checks.due("CODE 0: run(1)", host.run(1), 2);
        Checks.due("CODE 0: which TRAP", host.count(6), 3);
        Checks.due("CODE 0: PC", host.count(7), 1024);
        Checks.due("CODE 0: cycles", host.count(1), 1029);
    }

    private static void twoObjectsAreApart() {
        StageHost one = Words.host(Words.set(1, 5), Words.store(0, 1, 3), Words.put(1), Words.END);
        StageHost other = new StageHost();
        one.run(100);
        dueAnew("another object", other);
        Checks.due("another object: memory(3)", other.memory(3), 0);
    }

    private static void code() {
        StageHost host = new StageHost();
        host.code(0, Words.set(1, 7));
        host.code(1, Words.END);
        host.run(20);
        Checks.due("code() before begin(): done", host.count(2), 16);
        Checks.due("code() before begin(): register(1)", host.register(1), 0);
        host.begin();
        host.code(1, Words.set(2, 8));
        Checks.due("code() behind begin(): run(20)", host.run(20), 1);
        Checks.due("code() behind begin(): register(1)", host.register(1), 7);
        Checks.due("code() behind begin(): register(2)", host.register(2), 0);
        host.begin();
        host.run(20);
        Checks.due("code() behind the next begin(): register(2)", host.register(2), 8);
        host.code(0, Words.jump(0, 1023));
        host.code(1023, Words.END);
        host.begin();
        Checks.due("code(1023, END): run(20)", host.run(20), 1);
        Checks.due("code(1023, END): PC", host.count(7), 1023);
        for (int k : NO_WORDS) {
            Checks.dueThrow("code(" + k + ", 0)", INDEX, () -> host.code(k, 0));
        }
        host.begin();
        Checks.due("wrong code() changes nothing: run(20)", host.run(20), 1);
    }

    private static void data() {
        StageHost host = Words.host(Words.load(1, 0, 0), Words.load(2, 0, 1023), Words.END);
        host.data(0, 11);
        host.data(1023, -12);
        Checks.due("data() before begin(): memory(0)", host.memory(0), 0);
        host.run(100);
        Checks.due("data() before begin(): register(1)", host.register(1), 0);
        host.begin();
        Checks.due("data() behind begin(): memory(0)", host.memory(0), 11);
        Checks.due("data() behind begin(): memory(1023)", host.memory(1023), -12);
        host.run(100);
        Checks.due("data() behind begin(): register(1)", host.register(1), 11);
        Checks.due("data() behind begin(): register(2)", host.register(2), -12);
        for (int k : NO_WORDS) {
            Checks.dueThrow("data(" + k + ", 0)", INDEX, () -> host.data(k, 0));
        }
        host.begin();
        Checks.due("wrong data() changes nothing: memory(0)", host.memory(0), 11);
    }

    private static void begin() {
        int[] program = {
            Words.set(1, 3),
            Words.load(2, 0, 8),
            Words.store(0, 1, 8),
            Words.put(1),
            Words.jump(15, 1),
            Words.with(1, 1, 1, 1),
            Words.branch(41, 1, 0, -2),
            Words.jumpBy(0, 15, 4),
            Words.END,
            Words.END,
        };
        StageHost host = Words.host(program);
        host.data(8, 40);
        host.begin();
        int[] first = new int[9];
        for (int round = 0; round < 3; round++) {
            Checks.due("begin(): memory(8)", host.memory(8), 40);
            dueAnew("begin(), round " + round, host);
            Checks.due("begin(): run(1000)", host.run(1000), 1);
            Checks.due("begin(): memory(8) behind it", host.memory(8), 3);
            Checks.due("begin(): register(2) behind it", host.register(2), 40);
            Checks.due("begin(): output(0) behind it", host.output(0), 3);
            for (int k = 0; k < 9; k++) {
                first[k] = round == 0 ? host.count(k) : first[k];
                Checks.due("begin(), round " + round + ": count(" + k + ")", host.count(k), first[k]);
            }
            host.begin();
        }
        host.run(7);
        host.begin();
        dueAnew("begin() in the midst", host);
        host.run(1000);
        Checks.due("begin() in the midst: cycles", host.count(1), first[1]);
    }

    private static void run() {
        StageHost host = Words.host(Words.END);
        Checks.due("END: run(0)", host.run(0), 0);
        Checks.due("END: run(4)", host.run(4), 0);
        Checks.due("END: run(0) in cycle 4", host.run(0), 0);
        Checks.due("END: run(1)", host.run(1), 1);
        Checks.due("END: run(100000)", host.run(100000), 1);
        Checks.due("END: run(0) behind it", host.run(0), 1);
        Checks.due("END: cycles", host.count(1), 5);
        StageHost trap = Words.host(Words.word(63, 0, 0, 0, 0));
        Checks.due("TRAP: run(100000)", trap.run(100000), 2);
        Checks.due("TRAP: cycles", trap.count(1), 5);
        StageHost endless = Words.host(Words.jump(0, 0));
        Checks.due("endless: run(100000)", endless.run(100000), 0);
        Checks.due("endless: cycles", endless.count(1), 100000);
        Checks.due("endless: done", endless.count(2), 99996);
        for (int n : new int[] {-1, 100001, Integer.MIN_VALUE, Integer.MAX_VALUE}) {
            Checks.dueThrow("run(" + n + ")", ARGUMENT, () -> endless.run(n));
            Checks.dueThrow("run(" + n + ") behind END", ARGUMENT, () -> host.run(n));
        }
        Checks.due("wrong run() does no cycle", endless.count(1), 100000);
    }

    private static void runAsLongAsPromised() {
        StageHost host = new StageHost();
        host.code(0, Words.put(0));
        host.code(1, Words.jump(0, -1));
        host.begin();
        for (int k = 0; k < 505; k++) {
            host.run(100000);
        }
        Checks.due("505 long runs: cycles", host.count(1), 50500000);
        Checks.due("505 long runs: done", host.count(2), 50499996);
        Checks.due("505 long runs: put out", host.count(8), 25249998);
        Checks.due("505 long runs: how it ended", host.count(0), 0);
    }

    private static void register() {
        StageHost host = new StageHost();
        for (int k = 0; k < 16; k++) {
            host.code(k, Words.set(k, 100 + k));
        }
        host.code(16, Words.END);
        host.begin();
        for (int k = 0; k < 16; k++) {
            host.run(k == 0 ? 5 : 1);
            int due = k == 0 ? 0 : 100 + k;
            Checks.due("register(" + k + ") in its W", host.register(k), due);
            if (k < 15) {
                Checks.due("register(" + (k + 1) + ") before its W", host.register(k + 1), 0);
            }
        }
        for (int k : new int[] {-1, 16, Integer.MIN_VALUE, Integer.MAX_VALUE}) {
            Checks.dueThrow("register(" + k + ")", INDEX, () -> host.register(k));
        }
    }

    private static void memory() {
        // F 2, D 3, X 4, M 5, W 6 of the store: the word is there one cycle before W.
        StageHost host = Words.host(Words.set(1, 9), Words.store(0, 1, 1023), Words.END);
        host.run(4);
        Checks.due("memory(1023) before ME", host.memory(1023), 0);
        host.run(1);
        Checks.due("memory(1023) behind ME", host.memory(1023), 9);
        Checks.due("memory(1023) behind ME: done", host.count(2), 1);
        host.run(1);
        Checks.due("memory(1023) behind W", host.memory(1023), 9);
        Checks.due("memory(1023) behind W: done", host.count(2), 2);
        Checks.due("memory(0)", host.memory(0), 0);
        for (int k : NO_WORDS) {
            Checks.dueThrow("memory(" + k + ")", INDEX, () -> host.memory(k));
        }
    }

    private static void output() {
        StageHost host = Words.host(Words.set(1, 4), Words.put(1), Words.put(0), Words.END);
        host.run(5);
        Checks.dueThrow("output(0) before W", INDEX, () -> host.output(0));
        host.run(1);
        Checks.due("output(0)", host.output(0), 4);
        Checks.dueThrow("output(1) before W", INDEX, () -> host.output(1));
        host.run(1);
        Checks.due("output(1)", host.output(1), 0);
        Checks.dueThrow("output(2)", INDEX, () -> host.output(2));
        Checks.dueThrow("output(-1)", INDEX, () -> host.output(-1));
        Checks.dueThrow("output(least)", INDEX, () -> host.output(Integer.MIN_VALUE));
        host.begin();
        Checks.dueThrow("output(0) behind begin()", INDEX, () -> host.output(0));
    }

    private static void outputOfMany() {
        StageHost host = Words.host(Words.put(1), Words.with(0, 1, 1, 1), Words.jump(0, -2));
        host.run(4 + 3 * 999);
        Checks.due("999 put out: count(8)", host.count(8), 999);
        Checks.dueThrow("999 put out: output(999)", INDEX, () -> host.output(999));
        host.run(1);
        Checks.due("1000 put out: count(8)", host.count(8), 1000);
        Checks.due("1000 put out: output(999)", host.output(999), 999);
        host.run(3 * 500);
        Checks.due("1500 put out: count(8)", host.count(8), 1500);
        Checks.due("1500 put out: output(0)", host.output(0), 0);
        Checks.due("1500 put out: output(999)", host.output(999), 999);
        Checks.dueThrow("1500 put out: output(1000)", INDEX, () -> host.output(1000));
        Checks.dueThrow("1500 put out: output(1499)", INDEX, () -> host.output(1499));
    }

    private static void count() {
        int[] program = {
            Words.set(1, 2),
            Words.load(2, 0, 0),
            Words.put(2),
            Words.with(1, 1, 1, 1),
            Words.branch(41, 1, 0, -3),
            Words.END,
        };
        StageHost host = Words.host(program);
        Checks.due("count: run(1000)", host.run(1000), 1);
        Checks.due("count(0)", host.count(0), 1);
        Checks.due("count(2)", host.count(2), 9);
        // Taken against the first COUNT of 1, then not taken against 2: both are wrong.
        Checks.due("count(3)", host.count(3), 2);
        Checks.due("count(4)", host.count(4), 1);
        Checks.due("count(5)", host.count(5), 1);
        Checks.due("count(6)", host.count(6), 0);
        Checks.due("count(7)", host.count(7), 5);
        Checks.due("count(8)", host.count(8), 2);
        for (int what : new int[] {-1, 9, Integer.MIN_VALUE, Integer.MAX_VALUE}) {
            Checks.dueThrow("count(" + what + ")", ARGUMENT, () -> host.count(what));
        }
    }

    private static void countBeforeTheEnd() {
        // The load has W 13, the TRAP W 14; that it misses and which TRAP is not told before.
        StageHost host = Words.host(Words.load(1, 0, 4), Words.word(50, 0, 0, 0, 0));
        host.run(12);
        Checks.due("before W: count(4)", host.count(4), 0);
        Checks.due("before W: count(7)", host.count(7), -1);
        host.run(1);
        Checks.due("in W: count(4)", host.count(4), 1);
        Checks.due("in W: count(7)", host.count(7), 0);
        Checks.due("in W: count(6)", host.count(6), 0);
        Checks.due("in W: count(0)", host.count(0), 0);
        host.run(1);
        Checks.due("TRAP: count(0)", host.count(0), 2);
        Checks.due("TRAP: count(2)", host.count(2), 1);
        Checks.due("TRAP: count(6)", host.count(6), 1);
        Checks.due("TRAP: count(7)", host.count(7), 1);
        StageHost branch = Words.host(Words.branch(40, 0, 0, 2), Words.END, Words.END);
        branch.run(4);
        Checks.due("branch before W: count(3)", branch.count(3), 0);
        Checks.due("branch before W: count(5)", branch.count(5), 0);
        branch.run(1);
        Checks.due("branch in W: count(3)", branch.count(3), 1);
        Checks.due("branch in W: count(5)", branch.count(5), 1);
    }

    public static void main(String[] args) {
        aNewObject();
        twoObjectsAreApart();
        code();
        data();
        begin();
        run();
        runAsLongAsPromised();
        register();
        memory();
        output();
        outputOfMany();
        count();
        countBeforeTheEnd();
        Checks.end();
    }
}
