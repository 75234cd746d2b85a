/** Terms 2 and 3: the sums of the cycles, with numbers that were worked out by hand. */
public final class CyclesTest {
    private static final int WORDS = 1024;

    private CyclesTest() {
    }

    /** Runs it cycle by cycle: it may not end before, and must end in, the cycle that is due. */
    private static StageHost dueEnd(String what, int cycle, int... words) {
        StageHost host = Words.host(words);
        for (int k = 1; k < cycle; k++) {
            Checks.due(what + ": cycle " + k, host.run(1), 0);
        }
        Checks.due(what + ": goes on in cycle " + cycle, host.run(1) == 0 ? 1 : 0, 0);
        Checks.due(what + ": cycles", host.count(1), cycle);
        return host;
    }

    private static void handedOn() {
        dueEnd("END", 5, Words.END);
        dueEnd("one by one", 7, Words.set(1, 1), Words.two(0, 2, 1, 1), Words.END);
        dueEnd("10 takes 3", 9, Words.set(1, 1), Words.two(10, 2, 1, 1), Words.END);
        dueEnd("11 takes 12", 18, Words.set(1, 1), Words.two(11, 2, 1, 1), Words.END);
        dueEnd("12 takes 12", 18, Words.set(1, 1), Words.two(12, 2, 1, 1), Words.END);
        dueEnd("what 10 got", 10, Words.set(1, 1), Words.two(10, 2, 1, 1), Words.two(0, 3, 2, 2), Words.END);
        dueEnd("10 behind 10", 12, Words.set(1, 1), Words.two(10, 2, 1, 1), Words.two(10, 3, 1, 1), Words.END);
    }

    private static void loaded() {
        dueEnd("a MISS, nobody reads it", 15, Words.load(1, 0, 0), Words.set(2, 1), Words.END);
        int load = Words.load(1, 0, 0);
        int[] readers = {Words.two(0, 2, 1, 0), Words.two(0, 2, 0, 1), Words.with(0, 2, 1, 0),
            Words.load(2, 1, 0), Words.store(1, 0, 0), Words.branch(41, 1, 0, 2),
            Words.branch(41, 0, 1, 2), Words.put(1)};
        for (int reader : readers) {
            dueEnd("a MISS, then OP " + (reader >>> 26), 16, load, reader, Words.END);
        }
        int[] others = {Words.word(26, 2, 1, 1, 0), Words.word(44, 2, 1, 1, 1), Words.word(49, 1, 0, 1, 0),
            Words.word(16, 2, 0, 1, 0), Words.word(33, 1, 0, 0, 0), Words.word(40, 1, 0, 0, 1), Words.store(0, 1, 1)};
        for (int other : others) {
            dueEnd("a MISS, then OP " + (other >>> 26) + " not waiting for it", 15, load, other, Words.END);
        }
        // 45 reads A: X 13, its guess is wrong, F 14 of the END.
        dueEnd("a MISS, then OP 45", 18, load, Words.jumpBy(2, 1, 3), Words.END, Words.END);
        dueEnd("a word HELD is read", 17, load, Words.load(2, 0, 1), Words.two(0, 3, 2, 2), Words.END);
        dueEnd("END reads nothing", 14, load, Words.word(48, 1, 1, 1, 0));
        dueEnd("TRAP 1 reads nothing", 14, load, Words.word(63, 1, 1, 1, 0));
        dueEnd("TRAP 2 reads A", 15, load, Words.load(2, 1, -1));
        dueEnd("TRAP 2 is no MISS", 5, Words.load(2, 0, -1));
        dueEnd("the latest one that gets it", 16, load, Words.set(1, 1), Words.two(0, 2, 1, 1), Words.END);
        dueEnd("register 0 is never waited for", 15, Words.load(0, 0, 0), Words.two(0, 2, 0, 0), Words.END);
    }

    private static void stored() {
        // Stored in M, not waited for in X: ME 13, W 14.
        StageHost host = new StageHost();
        Words.give(host, Words.load(1, 0, 0), Words.store(0, 1, 1), Words.END);
        host.data(0, 77);
        host.begin();
        host.run(12);
        Checks.due("before ME: memory(1)", host.memory(1), 0);
        Checks.due("before W: register(1)", host.register(1), 0);
        host.run(1);
        Checks.due("behind ME: memory(1)", host.memory(1), 77);
        Checks.due("behind W: register(1)", host.register(1), 77);
        Checks.due("behind ME: done", host.count(2), 1);
        Checks.due("run(1)", host.run(1), 0);
        Checks.due("done", host.count(2), 2);
        Checks.due("run(1), the END", host.run(1), 1);
    }

    private static void wrongGuessesCost() {
        dueEnd("not taken, guessed right", 6, Words.branch(41, 0, 0, 2), Words.END, Words.END);
        dueEnd("taken, guessed wrong", 8, Words.branch(40, 0, 0, 2), 0, Words.END);
        dueEnd("taken to PC + 1, no guess is wrong", 6, Words.branch(40, 0, 0, 1), Words.END);
        dueEnd("44, guessed right", 6, Words.jump(0, 2), 0, Words.END);
        dueEnd("45, guessed wrong", 8, Words.jumpBy(0, 0, 2), 0, Words.END);
        dueEnd("45 to PC + 1, guessed right", 6, Words.jumpBy(0, 0, 1), Words.END);
        StageHost trap = dueEnd("TRAP 3 behind a wrong guess", 8, Words.jumpBy(0, 0, 2000));
        Checks.due("TRAP 3 behind a wrong guess: count(3)", trap.count(3), 1);
        Checks.due("TRAP 3 behind a wrong guess: count(2)", trap.count(2), 1);
    }

    private static void dueWrong(String what, int wrong, int... words) {
        StageHost host = Words.host(words);
        Checks.due(what + ": run(10000)", host.run(10000), 1);
        Checks.due(what + ": wrong guesses", host.count(3), wrong);
    }

    private static void counts() {
        // COUNT 1 at the first round, 2 or 3 at the last: these two are guessed wrong.
        int[] loop = {Words.set(1, 6), 0, 0, Words.with(1, 1, 1, 1), Words.branch(41, 1, 0, -3), Words.END};
        dueWrong("a loop of 6 rounds", 2, loop);
        // 3 at most, so 2 behind the first end: the second time only the end is guessed wrong.
        int[] twice = {Words.set(2, 2), Words.set(1, 6), 0, 0, Words.with(1, 1, 1, 1),
            Words.branch(41, 1, 0, -3), Words.with(1, 2, 2, 1), Words.branch(41, 2, 0, -6), Words.END};
        dueWrong("a loop of 6 rounds twice", 2 + 1 + 2, twice);
        // Not taken four times, taken five times: 0 at least, so that two wrong ones bring it to 2.
        int[] late = {Words.set(2, 5), 0, Words.with(0, 1, 1, 1), Words.branch(43, 1, 2, 2), 0, 0,
            Words.with(8, 3, 1, 9), Words.branch(41, 3, 0, -6), Words.END};
        dueWrong("a branch not taken, then taken", 2 + 2, late);
        // Taken six times, then not: 3 at most, so that two wrong ones bring it down to 1.
        int[] early = {Words.set(2, 7), 0, Words.with(0, 1, 1, 1), Words.branch(42, 1, 2, 2), 0, 0,
            Words.with(8, 3, 1, 13), Words.branch(41, 3, 0, -6), Words.END};
        dueWrong("a branch taken, then not taken", 1 + 2 + 2, early);
    }

    private static void countsAreHeardBehindXe() {
        // The branch to PC + 1 is never guessed wrong, so that those behind it come to F before it tells.
        int up = Words.branch(40, 0, 0, 1);
        Checks.due("told in XE 3, F 3", wrongAt64(up, Words.jump(0, 63)), 1);
        Checks.due("told in XE 3, F 4", wrongAt64(up, 0, Words.jump(0, 62)), 0);
        int down = Words.branch(41, 0, 0, 1);
        Checks.due("goes down, though on at PC + 1", wrongAt64(down, 0, Words.jump(0, 62)), 1);
    }

    /** How often the guess is wrong when these lead to a taken branch at 64, whose COUNT is that of 0. */
    private static int wrongAt64(int... words) {
        StageHost host = new StageHost();
        Words.give(host, words);
        host.code(64, Words.branch(40, 0, 0, 2));
        host.code(66, Words.END);
        host.begin();
        Checks.due("to 64: run(100)", host.run(100), 1);
        return host.count(3);
    }

    private static void countsOfLowBits() {
        StageHost host = new StageHost();
        Words.give(host, Words.branch(40, 0, 0, 64));
        host.code(64, Words.branch(40, 0, 0, 64));
        host.code(128, Words.branch(40, 0, 0, 64 + 1));
        host.code(193, Words.branch(40, 0, 0, 1 + 1));
        host.code(195, Words.END);
        host.begin();
        Checks.due("low bits: run(100)", host.run(100), 1);
        Checks.due("low bits: wrong guesses", host.count(3), 2);
        Checks.due("low bits: taken", host.count(5), 4);
    }

    private static void callsAreHeardBehindXe() {
        // XE of the call is 3: who comes to F in 3 does not know of it, who comes in 4 does.
        dueWrong("return in F 2", 1, Words.jump(15, 2), Words.END, Words.jumpBy(0, 15, 0));
        dueWrong("return in F 3", 1, Words.jump(15, 2), Words.END, 0, Words.jumpBy(0, 15, 0));
        dueWrong("return in F 4", 0, Words.jump(15, 2), Words.END, 0, 0, Words.jumpBy(0, 15, 0));
        dueWrong("call by 45", 1, Words.jumpBy(15, 0, 2), Words.END, 0, 0, Words.jumpBy(0, 15, 0));
        dueWrong("no return, D is not 0", 1, Words.jump(15, 2), Words.END, 0, 0, Words.jumpBy(1, 15, 0));
        dueWrong("no call, D is 14", 1, Words.jump(14, 2), Words.END, Words.with(0, 15, 14, 0), 0,
            Words.jumpBy(0, 15, 0));
        dueWrong("no return, A is 14", 1, Words.jump(15, 2), Words.END, Words.with(0, 14, 15, 0), 0,
            Words.jumpBy(0, 14, 0));
    }

    /** So many calls in one another; each but the innermost keeps its register 15 in DATA. */
    private static int wrongOfDepth(int depth) {
        StageHost host = new StageHost();
        Words.give(host, Words.jump(15, 10), Words.END);
        for (int k = 1; k < depth; k++) {
            int at = 10 * k;
            host.code(at, Words.store(0, 15, k));
            host.code(at + 1, Words.jump(15, 9));
            host.code(at + 2, Words.load(15, 0, k));
            host.code(at + 4, Words.jumpBy(0, 15, 0));
        }
        host.code(10 * depth + 3, Words.jumpBy(0, 15, 0));
        host.begin();
        Checks.due("depth " + depth + ": run(10000)", host.run(10000), 1);
        Checks.due("depth " + depth + ": PC", host.count(7), 1);
        return host.count(3);
    }

    private static void callsAreEight() {
        for (int depth = 1; depth <= 20; depth++) {
            Checks.due("calls, depth " + depth, wrongOfDepth(depth), Math.max(0, depth - 8));
        }
    }

    private static void dueMisses(String what, int misses, int... words) {
        int[] all = java.util.Arrays.copyOf(words, words.length + 1);
        all[words.length] = Words.END;
        StageHost host = Words.host(all);
        Checks.due(what + ": run(10000)", host.run(10000), 1);
        Checks.due(what + ": misses", host.count(4), misses);
    }

    private static int load(int word) {
        return Words.load(1, 0, word);
    }

    private static void misses() {
        dueMisses("a LINE has 4 words", 1, load(4), load(5), load(6), load(7), load(4));
        dueMisses("the next LINE", 2, load(7), load(8), load(7), load(8));
        dueMisses("LINEs of one place", 3, load(0), load(64), load(1));
        dueMisses("LINEs far apart at one place", 3, load(3), load(963), load(3), load(3));
        dueMisses("33 holds nothing", 1, Words.store(0, 0, 0), load(0));
        dueMisses("33 takes nothing away", 1, load(0), Words.store(0, 0, 64), Words.store(0, 0, 0), load(0));
        dueMisses("33 alone", 0, Words.store(0, 0, 0), Words.store(0, 0, 1));
        int[] twice = new int[32];
        for (int k = 0; k < 32; k++) {
            twice[k] = load(512 + 4 * (k % 16));
        }
        dueMisses("16 places", 16, twice);
    }

    /** Every cycle of a program that has all kinds in it, against the plain model. */
    private static void cycleByCycle() {
        int[] code = new int[WORDS];
        int[] words = {Words.set(1, 12), Words.set(2, 0), Words.load(3, 2, 0), Words.two(10, 4, 3, 1),
            Words.store(2, 4, 100), Words.with(0, 2, 2, 3), Words.jump(15, 6), Words.put(5),
            Words.with(1, 1, 1, 1), Words.branch(41, 1, 0, -7), Words.load(6, 0, 2000), Words.END,
            Words.two(11, 5, 4, 1), Words.branch(42, 5, 4, 2), Words.two(12, 5, 4, 3), Words.jumpBy(0, 15, 0)};
        System.arraycopy(words, 0, code, 0, words.length);
        int[] data = new int[WORDS];
        StageHost host = Words.host(words);
        for (int k = 0; k < 40; k++) {
            data[k] = 7 * k - 50;
            host.data(k, data[k]);
        }
        host.begin();
        Model model = new Model(code, data, 2000);
        for (int cycle = 0; cycle < 1200; cycle++) {
            model.compare("cycle by cycle", host, cycle);
            host.run(1);
        }
        Checks.due("cycle by cycle: TRAP", host.count(6), 2);
    }

    public static void main(String[] args) {
        handedOn();
        loaded();
        stored();
        wrongGuessesCost();
        counts();
        countsAreHeardBehindXe();
        countsOfLowBits();
        callsAreHeardBehindXe();
        callsAreEight();
        misses();
        cycleByCycle();
        Checks.end();
    }
}
