/** Terms 1: what each OP does with ordinary numbers; the edges are in TermsBoundaryTest. */
public final class InstructionsTest {
    private InstructionsTest() {
    }

    private static void ofTwo() {
        int[] due = {18, 6, 4, 14, 10, 768, 0, 0, 0, 0, 72, 2, 0};
        for (int op = 0; op <= 12; op++) {
            Tries.dueOfTwo(op, 12, 6, due[op]);
        }
        Tries.dueOfTwo(6, 100, 3, 12);
        Tries.dueOfTwo(7, -100, 3, -13);
        Tries.dueOfTwo(8, 6, 12, 1);
        Tries.dueOfTwo(9, 6, 12, 1);
        Tries.dueOfTwo(10, -3, 5, -15);
        Tries.dueOfTwo(11, 1000, 7, 142);
        Tries.dueOfTwo(12, 1000, 7, 6);
    }

    private static void withNumber() {
        int[] due = {18, 6, 4, 14, 10, 768, 0, 0, 0, 0};
        for (int op = 16; op <= 25; op++) {
            Tries.dueWithNumber(op, 12, 6, due[op - 16]);
        }
        Tries.dueWithNumber(16, 3, -4, -1);
        Tries.dueWithNumber(22, 100, 3, 12);
        Tries.dueWithNumber(23, -100, 3, -13);
        Tries.dueWithNumber(24, 6, 12, 1);
        Tries.dueWithNumber(25, 6, 12, 1);
        Tries.dueWithNumber(26, 77, 5, 5 << 18);
    }

    private static void access() {
        StageHost host = Words.host(Words.set(1, 30), Words.set(2, 6), Words.store(1, 2, 5), Words.load(3, 1, 5),
            Words.load(4, 1, -10), Words.END);
        host.data(20, 200);
        host.begin();
        Checks.due("access: run", host.run(100), 1);
        Checks.due("access: memory(35)", host.memory(35), 6);
        Checks.due("access: register(3)", host.register(3), 6);
        Checks.due("access: register(4)", host.register(4), 200);
    }

    private static void jumps() {
        StageHost host = Words.host(Words.jump(3, 2), Words.END, Words.set(4, 1), Words.jumpBy(5, 4, 5),
            Words.END, Words.END, Words.END);
        Checks.due("jumps: run", host.run(100), 1);
        Checks.due("OP 44: D", host.register(3), 1);
        Checks.due("OP 45: D", host.register(5), 4);
        Checks.due("OP 45: where", host.count(7), 6);
        StageHost back = Words.host(Words.jump(0, 3), Words.set(5, 9), Words.END, Words.jump(6, -2));
        back.run(100);
        Checks.due("OP 44 back: register(5)", back.register(5), 9);
        Checks.due("OP 44 back: D", back.register(6), 4);
    }

    /** The sum of 1 to 10 in a loop by each of the branches. */
    private static void loops() {
        int[] branches = {Words.branch(41, 1, 2, -2), Words.branch(42, 1, 2, -2), Words.branch(43, 3, 1, -2)};
        for (int branch : branches) {
            StageHost host = Words.host(Words.set(2, 10), Words.set(3, 9), Words.with(0, 1, 1, 1),
                Words.two(0, 4, 4, 1), branch, Words.END);
            Checks.due("loop by OP " + (branch >>> 26) + ": run", host.run(1000), 1);
            Checks.due("loop by OP " + (branch >>> 26) + ": sum", host.register(4), 55);
        }
        StageHost equal = Words.host(Words.set(1, 4), Words.set(2, 4), Words.branch(40, 1, 2, 2), Words.set(3, 1),
            Words.END);
        equal.run(100);
        Checks.due("OP 40: not done", equal.register(3), 0);
    }

    public static void main(String[] args) {
        ofTwo();
        withNumber();
        access();
        jumps();
        loops();
        Checks.end();
    }
}
