/** Terms 2 and 3 in ordinary programs, by hand and by the Model; the edges are in CyclesBoundaryTest. */
public final class CyclesTest {
    private static final int WORDS = 1024;

    private CyclesTest() {
    }

    private static void handedOn() {
        Tries.dueEnd("one by one", 7, Words.set(1, 1), Words.two(0, 2, 1, 1), Words.END);
        Tries.dueEnd("10 takes 3", 9, Words.set(1, 1), Words.two(10, 2, 1, 1), Words.END);
        Tries.dueEnd("11 takes 12", 18, Words.set(1, 1), Words.two(11, 2, 1, 1), Words.END);
        Tries.dueEnd("what 10 got", 10, Words.set(1, 1), Words.two(10, 2, 1, 1), Words.two(0, 3, 2, 2), Words.END);
        Tries.dueEnd("10 behind 10", 12, Words.set(1, 1), Words.two(10, 2, 1, 1), Words.two(10, 3, 1, 1), Words.END);
        Tries.dueEnd("a word HELD is read", 17, Words.load(1, 0, 0), Words.load(2, 0, 1), Words.two(0, 3, 2, 2),
            Words.END);
    }

    private static void goesOn() {
        Tries.dueEnd("44, guessed right", 6, Words.jump(0, 2), 0, Words.END);
        Tries.dueEnd("45, guessed wrong", 8, Words.jumpBy(0, 0, 2), 0, Words.END);
        Tries.dueEnd("45 to PC + 1, guessed right", 6, Words.jumpBy(0, 0, 1), Words.END);
        // 45 reads A: X 13, its guess is wrong, F 14 of the END.
        Tries.dueEnd("a MISS, then OP 45", 18, Words.load(1, 0, 0), Words.jumpBy(2, 1, 3), Words.END, Words.END);
    }

    private static void loops() {
        // COUNT 1 at the first round, 2 or 3 at the last: these two are guessed wrong.
        int[] loop = {Words.set(1, 6), 0, 0, Words.with(1, 1, 1, 1), Words.branch(41, 1, 0, -3), Words.END};
        Tries.dueWrong("a loop of 6 rounds", 2, loop);
        // 3 at most, so 2 behind the first end: the second time only the end is guessed wrong.
        int[] twice = {Words.set(2, 2), Words.set(1, 6), 0, 0, Words.with(1, 1, 1, 1),
            Words.branch(41, 1, 0, -3), Words.with(1, 2, 2, 1), Words.branch(41, 2, 0, -6), Words.END};
        Tries.dueWrong("a loop of 6 rounds twice", 2 + 1 + 2, twice);
        // Not taken four times, taken five times: 0 at least, so that two wrong ones bring it to 2.
        int[] late = {Words.set(2, 5), 0, Words.with(0, 1, 1, 1), Words.branch(43, 1, 2, 2), 0, 0,
            Words.with(8, 3, 1, 9), Words.branch(41, 3, 0, -6), Words.END};
        Tries.dueWrong("a branch not taken, then taken", 2 + 2, late);
        // Taken six times, then not: 3 at most, so that two wrong ones bring it down to 1.
        int[] early = {Words.set(2, 7), 0, Words.with(0, 1, 1, 1), Words.branch(42, 1, 2, 2), 0, 0,
            Words.with(8, 3, 1, 13), Words.branch(41, 3, 0, -6), Words.END};
        Tries.dueWrong("a branch taken, then not taken", 1 + 2 + 2, early);
    }

    /** Behind each number of cycles of a program that has all kinds in it, against the plain model. */
    private static void cycleByCycle() {
        int[] words = {Words.set(1, 12), Words.set(2, 0), Words.load(3, 2, 0), Words.two(10, 4, 3, 1),
            Words.store(2, 4, 100), Words.with(0, 2, 2, 3), Words.jump(15, 6), Words.put(5),
            Words.with(1, 1, 1, 1), Words.branch(41, 1, 0, -7), Words.load(6, 0, 2000), Words.END,
            Words.two(11, 5, 4, 1), Words.branch(42, 5, 4, 2), Words.two(12, 5, 4, 3), Words.jumpBy(0, 15, 0)};
        int[] code = java.util.Arrays.copyOf(words, WORDS);
        int[] data = new int[WORDS];
        for (int k = 0; k < 40; k++) {
            data[k] = 7 * k - 50;
        }
        Model model = new Model(code, data, 2000);
        for (int cycle = 0; cycle < 1200; cycle++) {
            StageHost host = Words.host(words);
            Tries.withData(host, java.util.Arrays.copyOf(data, 40));
            host.run(cycle);
            model.compare("cycle by cycle", host, cycle);
        }
        Checks.due("cycle by cycle: it came to its TRAP", model.all.get(model.all.size() - 1).trap, 2);
    }

    public static void main(String[] args) {
        handedOn();
        goesOn();
        loops();
        cycleByCycle();
        Checks.end();
    }
}
