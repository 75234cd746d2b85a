/** Promises 1 to 9, one method each, by ordinary calls; the edges are in PromisesBoundaryTest. */
public final class PromisesTest {
    private PromisesTest() {
    }

    private static void aNewObject() {
        StageHost host = new StageHost();
        Tries.dueAnew("a new object", host);
        host.run(20);
        Checks.due("a new object: done behind 20 cycles", host.count(2), 16);
    }

    private static void code() {
        StageHost host = new StageHost();
        host.code(0, Words.set(1, 7));
        host.code(1, Words.END);
        host.begin();
        Checks.due("code: run", host.run(20), 1);
        Checks.due("code: register(1)", host.register(1), 7);
    }

    private static void data() {
        StageHost host = Words.host(Words.load(1, 0, 30), Words.load(2, 0, 31), Words.END);
        host.data(30, 11);
        host.data(31, -12);
        host.begin();
        Checks.due("data: memory(30)", host.memory(30), 11);
        host.run(100);
        Checks.due("data: register(1)", host.register(1), 11);
        Checks.due("data: register(2)", host.register(2), -12);
    }

    private static void begin() {
        StageHost host = Words.host(Words.set(1, 3), Words.load(2, 0, 8), Words.store(0, 1, 8), Words.put(1),
            Words.jump(15, 1), Words.with(1, 1, 1, 1), Words.branch(41, 1, 0, -2), Words.jumpBy(0, 15, 4), 0,
            Words.END);
        host.data(8, 40);
        host.begin();
        int[] first = new int[9];
        for (int round = 0; round < 3; round++) {
            Tries.dueAnew("begin, round " + round, host);
            Checks.due("begin: memory(8)", host.memory(8), 40);
            Checks.due("begin: run", host.run(1000), 1);
            Checks.due("begin: memory(8) behind it", host.memory(8), 3);
            Checks.due("begin: register(2) behind it", host.register(2), 40);
            Checks.due("begin: output(0) behind it", host.output(0), 3);
            for (int k = 0; k < 9; k++) {
                first[k] = round == 0 ? host.count(k) : first[k];
                Checks.due("begin, round " + round + ": count(" + k + ")", host.count(k), first[k]);
            }
            host.begin();
        }
    }

    private static void run() {
        StageHost host = Words.host(Words.set(1, 20), Words.with(1, 1, 1, 1), Words.branch(41, 1, 0, -1), Words.END);
        Checks.due("run(30)", host.run(30), 0);
        Checks.due("run(30): cycles", host.count(1), 30);
        Checks.due("run(1000)", host.run(1000), 1);
        Checks.due("run(1000): done", host.count(2), 41);
    }

    private static void register() {
        StageHost host = new StageHost();
        for (int k = 0; k < 16; k++) {
            host.code(k, Words.set(k, 100 + k));
        }
        host.code(16, Words.END);
        host.begin();
        for (int k = 0; k < 16; k++) {
            host.run(k == 0 ? 5 : 1);
            Checks.due("register(" + k + ") in its W", host.register(k), k == 0 ? 0 : 100 + k);
            Checks.due("register before its W", host.register(Math.min(k + 1, 15)), k < 15 ? 0 : 115);
        }
    }

    private static void memory() {
        StageHost host = Words.host(Words.set(1, 9), Words.store(0, 1, 50), Words.END);
        Checks.due("memory(50)", host.memory(50), 0);
        host.run(100);
        Checks.due("memory(50) behind it", host.memory(50), 9);
        Checks.due("memory(51) behind it", host.memory(51), 0);
    }

    private static void output() {
        StageHost host = Words.host(Words.set(1, 4), Words.put(1), Words.put(0), Words.put(1), Words.END);
        host.run(100);
        int[] due = {4, 0, 4};
        for (int k = 0; k < 3; k++) {
            Checks.due("output(" + k + ")", host.output(k), due[k]);
        }
    }

    private static void count() {
        StageHost host = Words.host(Words.set(1, 2), Words.load(2, 0, 0), Words.put(2), Words.with(1, 1, 1, 1),
            Words.branch(41, 1, 0, -3), Words.END);
        Checks.due("count: run", host.run(1000), 1);
        // Taken against the first COUNT of 1, then not taken against 2: both are wrong.
        // 10 instructions have W from 5 on, with 8 more for the MISS and 1 for who waits for it. The second
        // load is HELD and waited for 1 cycle; each wrong guess costs 2.
        int[] due = {1, 4 + 10 + 8 + 1 + 1 + 2 + 2, 9, 2, 1, 1, 0, 5, 2};
        for (int k = 0; k < 9; k++) {
            Checks.due("count(" + k + ")", host.count(k), due[k]);
        }
    }

    public static void main(String[] args) {
        aNewObject();
        code();
        data();
        begin();
        run();
        register();
        memory();
        output();
        count();
        Checks.end();
    }
}
