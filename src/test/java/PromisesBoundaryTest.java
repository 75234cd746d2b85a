/** Promises 1 to 9: each sentence that names an edge or a refused call has a method of its own. */
public final class PromisesBoundaryTest {
    private static final Class<IndexOutOfBoundsException> INDEX = IndexOutOfBoundsException.class;
    private static final Class<IllegalArgumentException> ARGUMENT = IllegalArgumentException.class;
    private static final int LEAST = Tries.LEAST;
    private static final int MOST = Tries.MOST;
    private static final int[] NO_WORDS = {-1, 1024, 1025, -1024, LEAST, MOST, LEAST + 1, 1 << 16};
    private static final int RETURN = Words.jumpBy(0, 15, 0);

    private PromisesBoundaryTest() {
    }

    private static void all512Calls() {
        StageHost host = new StageHost();
        host.code(0, Words.jump(0, 0));
        host.begin();
        int going = 0;
        for (int k = 0; k < 508; k++) {
            going += host.run(100000);
        }
        Checks.due("what 508 long runs answered in sum", going, 0);
        Checks.due("call 511: cycles", host.count(1), 50800000);
        Checks.due("call 512: done", host.count(2), 50799996);
    }

    private static void newCode() {
        // 1024 additions to register 0, then no word: the 1025th has W in cycle 1029.
        StageHost host = new StageHost();
        Checks.due("run(1028)", host.run(1028), 0);
        Checks.due("done", host.count(2), 1024);
        Checks.due("run(1)", host.run(1), 2);
        Checks.due("which TRAP", host.count(6), 3);
        Checks.due("PC", host.count(7), 1024);
        Checks.due("register(0)", host.register(0), 0);
    }

    private static void newData() {
        for (int part = 0; part < 1024; part += 256) {
            StageHost host = new StageHost();
            for (int k = part; k < part + 256; k++) {
                Checks.due("memory(" + k + ")", host.memory(k), 0);
            }
        }
    }

    private static void newAsBegun() {
        Tries.dueAnew("a new object", new StageHost());
        StageHost begun = new StageHost();
        begun.begin();
        Tries.dueAnew("a new object behind begin()", begun);
        StageHost one = Words.host(Words.set(1, 5), Words.store(0, 1, 3), Words.put(1), Words.END);
        StageHost other = new StageHost();
        one.run(100);
        Tries.dueAnew("while another one was at work", other);
        Checks.due("while another one was at work: memory(3)", other.memory(3), 0);
    }

    private static void codeIsGiven() {
        StageHost host = new StageHost();
        host.code(0, Words.jump(0, 1023));
        host.code(1023, -1);
        host.code(1023, Words.END);
        host.begin();
        Checks.due("words 0 and 1023, the latter given twice: run", host.run(100), 1);
        Checks.due("words 0 and 1023: PC", host.count(7), 1023);
        Tries.dueTrap("the most", Words.host(MOST), 1, 0);
        // OP 32 and nothing else: word 0 of DATA to register 0.
        StageHost least = Words.host(LEAST, Words.END);
        Checks.due("the least: run", least.run(100), 1);
        Checks.due("the least: misses", least.count(4), 1);
    }

    private static void codeFromBeginOn() {
        StageHost host = Words.host(Words.set(1, 7), 0, 0, 0, 0, 0, 0, 0, Words.END);
        host.code(0, Words.set(1, 8));
        host.run(3);
        host.code(7, Words.set(2, 9));
        Checks.due("run", host.run(100), 1);
        Checks.due("given before F: register(1)", host.register(1), 7);
        Checks.due("given in the midst: register(2)", host.register(2), 0);
        host.begin();
        Checks.due("run behind begin()", host.run(100), 1);
        Checks.due("behind begin(): register(1)", host.register(1), 8);
        Checks.due("behind begin(): register(2)", host.register(2), 9);
        StageHost fresh = new StageHost();
        fresh.code(0, Words.END);
        Checks.due("a new object, no begin(): run", fresh.run(100), 0);
    }

    private static void codeRefused() {
        StageHost host = Words.host(Words.jump(0, 1023));
        host.code(1023, Words.END);
        for (int k : NO_WORDS) {
            Checks.dueThrow("code(" + k + ", -1)", INDEX, () -> host.code(k, -1));
        }
        host.begin();
        Checks.due("CODE is as before: run", host.run(100), 1);
        Checks.due("CODE is as before: PC", host.count(7), 1023);
        Checks.dueThrow("code(1024, 0) behind the END", INDEX, () -> host.code(1024, 0));
        Checks.due("the state is as before", host.count(1), 6);
    }

    private static void dataIsGiven() {
        StageHost host = new StageHost();
        host.data(0, LEAST);
        host.data(1023, 1);
        host.data(1023, MOST);
        host.data(512, -1);
        host.begin();
        Checks.due("memory(0)", host.memory(0), LEAST);
        Checks.due("memory(1023), given twice", host.memory(1023), MOST);
        Checks.due("memory(512)", host.memory(512), -1);
        Checks.due("memory(1)", host.memory(1), 0);
        Checks.due("memory(1022)", host.memory(1022), 0);
    }

    private static void dataAtBegin() {
        StageHost host = Words.host(Words.load(1, 0, 0), Words.END);
        host.data(0, 5);
        Checks.due("before begin(): memory(0)", host.memory(0), 0);
        host.run(100);
        Checks.due("before begin(): register(1)", host.register(1), 0);
        host.begin();
        Checks.due("behind begin(): memory(0)", host.memory(0), 5);
        host.data(0, 6);
        Checks.due("given again: memory(0)", host.memory(0), 5);
        host.run(100);
        Checks.due("given again: register(1)", host.register(1), 5);
        host.begin();
        Checks.due("behind the next begin(): memory(0)", host.memory(0), 6);
    }

    private static void dataRefused() {
        StageHost host = new StageHost();
        host.data(0, 11);
        host.data(1023, 12);
        for (int k : NO_WORDS) {
            Checks.dueThrow("data(" + k + ", -1)", INDEX, () -> host.data(k, -1));
        }
        host.begin();
        Checks.due("DATA is as before: memory(0)", host.memory(0), 11);
        Checks.due("DATA is as before: memory(1023)", host.memory(1023), 12);
    }

    /** Puts everything of a host in motion: it is then in the midst of a MISS. */
    private static StageHost used() {
        StageHost host = Words.host(Words.set(1, 3), Words.put(1), Words.store(0, 1, 8), Words.jump(15, 1),
            Words.branch(40, 0, 0, 2), 0, Words.load(2, 0, 40), Words.load(3, 0, 80), Words.END);
        host.run(20);
        return host;
    }

    private static void dueAnewBehindBegin(String what, StageHost host) {
        host.begin();
        Tries.dueAnew(what, host);
        Checks.due(what + ": memory(8)", host.memory(8), 0);
    }

    private static void beginAnew() {
        StageHost midst = used();
        Checks.due("it is in the midst", midst.count(0), 0);
        Checks.due("something is put out", midst.count(8), 1);
        dueAnewBehindBegin("in the midst", midst);
        dueAnewBehindBegin("twice", midst);
        StageHost ended = used();
        Checks.due("it has ended", ended.run(100), 1);
        dueAnewBehindBegin("behind an END", ended);
        StageHost trap = Words.host(Words.set(9, 1), -1);
        Checks.due("it is trapped", trap.run(100), 2);
        dueAnewBehindBegin("behind a TRAP", trap);
        StageHost full = Words.host(Words.put(0), Words.jump(0, -1));
        full.run(3000);
        dueAnewBehindBegin("behind more than 1000 put out", full);
    }

    private static void beginGivesAgain() {
        StageHost host = Words.host(Words.load(1, 0, 8), Words.with(0, 1, 1, 1), Words.store(0, 1, 8), Words.END);
        host.data(8, 40);
        for (int round = 0; round < 3; round++) {
            host.begin();
            Checks.due("round " + round + ": memory(8)", host.memory(8), 40);
            Checks.due("round " + round + ": run", host.run(100), 1);
            Checks.due("round " + round + ": memory(8) behind the END", host.memory(8), 41);
            Checks.due("round " + round + ": cycles", host.count(1), 17);
        }
    }

    /** Lets these begin anew on an object that has been used before, up to some cycle. */
    private static StageHost again(StageHost host, int cycles, int... words) {
        host.run(cycles);
        Words.give(host, words);
        host.begin();
        return host;
    }

    private static void beginForgetsCounts() {
        StageHost up = Words.host(Words.branch(40, 0, 0, 2), 0, Words.END);
        for (int round = 0; round < 3; round++) {
            Tries.dueWrongOf("COUNT was 2, round " + round, 1, again(up, 100));
        }
        // Both have the same COUNT: from 0 both would be guessed wrong, from 1 only the first.
        StageHost down = Words.host(Words.branch(41, 0, 0, 2), Words.END);
        down.code(64, Words.branch(40, 0, 0, 2));
        down.code(66, Words.END);
        Tries.dueWrongOf("COUNT was 0", 1, again(down, 100, Words.branch(40, 0, 0, 64)));
    }

    private static void beginForgetsCalls() {
        StageHost ended = Words.host(Words.jump(15, 1), 0, 0, 0, Words.END);
        Tries.dueWrongOf("one was there", 0, again(ended, 100, Words.set(15, 4), 0, 0, RETURN, Words.END));
    }

    private static void beginForgetsTheUntold() {
        for (int cycles = 0; cycles < 8; cycles++) {
            StageHost call = Words.host(Words.jump(15, 1), 0, 0, 0, Words.END);
            Tries.dueWrongOf("a call, begun anew behind " + cycles, 0,
                again(call, cycles, Words.set(15, 4), 0, 0, RETURN, Words.END));
            StageHost branch = Words.host(Words.branch(40, 0, 0, 1), 0, 0, 0, Words.END);
            branch.code(64, Words.branch(40, 0, 0, 2));
            branch.code(66, Words.END);
            Tries.dueWrongOf("a branch, begun anew behind " + cycles, 1,
                again(branch, cycles, 0, 0, 0, Words.jump(0, 61)));
        }
    }

    private static void beginForgetsLines() {
        StageHost host = Words.host(Words.load(1, 0, 0), Words.END);
        for (int round = 0; round < 3; round++) {
            Tries.dueEndOf("round " + round, 14, again(host, 100));
            Checks.due("round " + round + ": misses", host.count(4), 1);
        }
    }

    private static void beginForgetsStages() {
        for (int cycles = 0; cycles < 16; cycles++) {
            StageHost miss = Words.host(Words.load(1, 0, 0), Words.two(11, 2, 1, 1), Words.END);
            Tries.dueEndOf("a reader, begun anew behind " + cycles, 6,
                again(miss, cycles, Words.two(0, 3, 1, 2), Words.END));
        }
    }

    private static void runMostCycles() {
        StageHost host = Words.host(Words.jump(0, 0));
        Checks.due("run(0)", host.run(0), 0);
        Checks.due("run(0): cycles", host.count(1), 0);
        Checks.due("run(1)", host.run(1), 0);
        Checks.due("run(1): cycles", host.count(1), 1);
        Checks.due("run(99999)", host.run(99999), 0);
        Checks.due("run(100000)", host.run(100000), 0);
        Checks.due("run(100000): cycles", host.count(1), 200000);
        Checks.due("run(100000): done", host.count(2), 199996);
        Checks.due("run(0) behind it", host.run(0), 0);
        Checks.due("run(0) behind it: cycles", host.count(1), 200000);
    }

    private static void runInPieces() {
        for (int first = 0; first < 20; first++) {
            StageHost host = Words.host(Words.set(1, 4), Words.load(2, 0, 0), Words.store(0, 1, 4), Words.END);
            host.run(first);
            host.run(0);
            host.run(14 - Math.min(first, 14));
            Checks.due(first + " first: memory(4)", host.memory(4), 4);
            Checks.due(first + " first: cycles", host.count(1), Math.min(16, Math.max(14, first)));
            Checks.due(first + " first: run", host.run(2), 1);
            Checks.due(first + " first: cycles behind the END", host.count(1), 16);
        }
    }

    private static void runOnceEnded() {
        StageHost end = Words.host(Words.END);
        end.run(5);
        StageHost trap = Words.host(-1);
        trap.run(100000);
        for (int n : new int[] {0, 1, 100000}) {
            Checks.due("END: run(" + n + ")", end.run(n), 1);
            Checks.due("END: cycles", end.count(1), 5);
            Checks.due("TRAP: run(" + n + ")", trap.run(n), 2);
            Checks.due("TRAP: cycles", trap.count(1), 5);
        }
    }

    private static void runAnswers() {
        int[] words = {Words.END, -1, Words.load(1, 0, -1), Words.store(0, 1, 1024)};
        for (int k = 0; k < words.length; k++) {
            int due = k == 0 ? 1 : 2;
            StageHost host = Words.host(words[k]);
            Checks.due("word " + k + ": run(0)", host.run(0), 0);
            Checks.due("word " + k + ": run(4)", host.run(4), 0);
            Checks.due("word " + k + ": run(0) behind 4", host.run(0), 0);
            Checks.due("word " + k + ": run(1)", host.run(1), due);
            Checks.due("word " + k + ": run(0) behind 5", host.run(0), due);
        }
        StageHost none = Words.host(Words.jump(0, -1));
        Checks.due("PC -1: run(5)", none.run(5), 0);
        Checks.due("PC -1: run(1)", none.run(1), 2);
    }

    private static void runRefused() {
        StageHost fresh = new StageHost();
        StageHost going = Words.host(Words.jump(0, 0));
        StageHost end = Words.host(Words.END);
        going.run(7);
        end.run(7);
        for (int n : new int[] {-1, 100001, -100000, LEAST, MOST}) {
            Checks.dueThrow("new: run(" + n + ")", ARGUMENT, () -> fresh.run(n));
            Checks.dueThrow("going: run(" + n + ")", ARGUMENT, () -> going.run(n));
            Checks.dueThrow("ended: run(" + n + ")", ARGUMENT, () -> end.run(n));
        }
        Tries.dueAnew("new, refused", fresh);
        Checks.due("going, refused: cycles", going.count(1), 7);
        Checks.due("going, refused: done", going.count(2), 3);
        Checks.due("ended, refused: cycles", end.count(1), 5);
        Checks.due("run(0) is not refused", fresh.run(0), 0);
        Checks.due("run(100000) is not refused", going.run(100000), 0);
    }

    private static void registerRefused() {
        StageHost host = Words.host(Words.set(15, 9), Words.END);
        host.run(100);
        for (int k : new int[] {-1, 16, 17, -16, LEAST, MOST}) {
            Checks.dueThrow("register(" + k + ")", INDEX, () -> host.register(k));
        }
        Checks.due("register(0)", host.register(0), 0);
        Checks.due("register(15)", host.register(15), 9);
    }

    private static void memoryRefused() {
        StageHost host = new StageHost();
        host.data(0, 3);
        host.data(1023, 4);
        host.begin();
        for (int k : NO_WORDS) {
            Checks.dueThrow("memory(" + k + ")", INDEX, () -> host.memory(k));
        }
        Checks.due("memory(0)", host.memory(0), 3);
        Checks.due("memory(1023)", host.memory(1023), 4);
    }

    private static void outputFromZero() {
        StageHost host = Words.host(Words.set(1, LEAST), Words.load(1, 0, 0), Words.put(1), Words.put(0), Words.END);
        Tries.withData(host, MOST);
        host.run(100);
        Checks.due("output(0)", host.output(0), MOST);
        Checks.due("output(1)", host.output(1), 0);
    }

    private static void outputRefused() {
        StageHost none = new StageHost();
        for (int k : new int[] {-1, 0, 1, 999, 1000, LEAST, MOST}) {
            Checks.dueThrow("nothing put out: output(" + k + ")", INDEX, () -> none.output(k));
        }
        StageHost two = Words.host(Words.put(0), Words.put(0), Words.END);
        two.run(100);
        for (int k : new int[] {-1, 2, 3, 999, 1000, LEAST, MOST}) {
            Checks.dueThrow("two put out: output(" + k + ")", INDEX, () -> two.output(k));
        }
        Checks.due("two put out: output(1)", two.output(1), 0);
        two.begin();
        Checks.dueThrow("begun anew: output(0)", INDEX, () -> two.output(0));
        Checks.dueThrow("begun anew: output(1)", INDEX, () -> two.output(1));
    }

    private static void outputOfTheFirst() {
        // The k-th one, from 0, has W in cycle 5 + 3 k.
        StageHost host = Words.host(Words.put(1), Words.with(0, 1, 1, 1), Words.jump(0, -2));
        host.run(4 + 3 * 999);
        Checks.due("999 put out: output(998)", host.output(998), 998);
        Checks.dueThrow("999 put out: output(999)", INDEX, () -> host.output(999));
        host.run(1);
        Checks.due("1000 put out: output(999)", host.output(999), 999);
        Checks.dueThrow("1000 put out: output(1000)", INDEX, () -> host.output(1000));
        host.run(3);
        Checks.due("1001 put out: count(8)", host.count(8), 1001);
        Checks.dueThrow("1001 put out: output(1000)", INDEX, () -> host.output(1000));
        host.run(3000);
        Checks.due("2001 put out: output(0)", host.output(0), 0);
        Checks.due("2001 put out: output(999)", host.output(999), 999);
        Checks.dueThrow("2001 put out: output(1000)", INDEX, () -> host.output(1000));
        Checks.dueThrow("2001 put out: output(2000)", INDEX, () -> host.output(2000));
    }

    private static void countHowItEnded() {
        int[] words = {Words.END, -1};
        for (int k = 0; k < 2; k++) {
            StageHost host = Words.host(words[k]);
            Checks.due("word " + k + ": at first", host.count(0), 0);
            host.run(4);
            Checks.due("word " + k + ": behind 4", host.count(0), 0);
            host.run(1);
            Checks.due("word " + k + ": behind 5", host.count(0), k + 1);
        }
    }

    private static void countCycles() {
        StageHost host = Words.host(0, 0, Words.END);
        int[] due = {0, 3, 6, 7, 7};
        for (int k = 0; k < due.length; k++) {
            Checks.due("behind " + k + " runs", host.count(1), due[k]);
            host.run(3);
        }
    }

    private static void countDone() {
        int[] last = {Words.END, -1, Words.load(1, 0, -1)};
        for (int word : last) {
            StageHost host = Words.host(0, 0, word);
            for (int n = 0; n < 9; n++) {
                Checks.due("OP " + (word >>> 26) + ", behind " + n, host.count(2), n < 5 ? 0 : n < 6 ? 1 : 2);
                host.run(1);
            }
        }
    }

    private static void countWrongGuesses() {
        StageHost host = Words.host(Words.branch(40, 0, 0, 2), 0, Words.END);
        host.run(4);
        Checks.due("behind W - 1", host.count(3), 0);
        host.run(1);
        Checks.due("behind W", host.count(3), 1);
        host.run(100);
        Checks.due("an END is none", host.count(3), 1);
        StageHost right = Words.host(Words.branch(40, 0, 0, 1), Words.branch(41, 0, 0, 1), Words.END);
        right.run(100);
        Checks.due("on at PC + 1 either way", right.count(3), 0);
        Checks.due("TRAP 3 behind a right guess", trapped(Words.jump(0, -1)).count(3), 0);
        Checks.due("TRAP 3 behind a wrong guess", trapped(Words.jumpBy(0, 0, -1)).count(3), 1);
    }

    private static StageHost trapped(int word) {
        StageHost host = Words.host(word);
        host.run(100);
        return host;
    }

    private static void countMisses() {
        StageHost host = Words.host(Words.load(1, 0, 0), Words.load(1, 0, 4), Words.END);
        int[][] due = {{0, 0}, {12, 0}, {13, 1}, {21, 1}, {22, 2}, {23, 2}};
        int cycle = 0;
        for (int[] at : due) {
            host.run(at[0] - cycle);
            cycle = at[0];
            Checks.due("behind " + cycle, host.count(4), at[1]);
        }
        Checks.due("a TRAP is none", trapped(Words.load(1, 0, -1)).count(4), 0);
    }

    private static void countBranches() {
        StageHost host = Words.host(Words.branch(40, 0, 0, 2), 0, Words.branch(41, 0, 0, 2), Words.branch(43, 0, 0, 2),
            0, Words.branch(42, 0, 0, 2), Words.jump(0, 1), Words.jumpBy(0, 0, 8), Words.END);
        host.run(4);
        Checks.due("behind W - 1", host.count(5), 0);
        host.run(1);
        Checks.due("behind W", host.count(5), 1);
        Checks.due("run", host.run(100), 1);
        Checks.due("behind all", host.count(5), 2);
        StageHost by1 = Words.host(Words.branch(40, 0, 0, 1), Words.END);
        by1.run(100);
        Checks.due("PC + 1 by its relation", by1.count(5), 1);
    }

    private static void countTrap() {
        StageHost host = Words.host(-1);
        Checks.due("at first", host.count(6), 0);
        host.run(4);
        Checks.due("behind W - 1", host.count(6), 0);
        host.run(1);
        Checks.due("behind W", host.count(6), 1);
        Checks.due("END", trapped(Words.END).count(6), 0);
        Checks.due("TRAP 2 of 32", trapped(Words.load(1, 0, 1024)).count(6), 2);
        Checks.due("TRAP 2 of 33", trapped(Words.store(0, 1, -1)).count(6), 2);
        Checks.due("TRAP 3", trapped(Words.jump(0, -1)).count(6), 3);
    }

    private static void countPc() {
        int[] last = {Words.END, -1, Words.load(1, 0, -1)};
        for (int word : last) {
            StageHost host = Words.host(0, Words.jump(0, 3), 0, 0, word);
            for (int n = 0; n < 9; n++) {
                int due = n < 5 ? -1 : n < 6 ? 0 : n < 7 ? 1 : 4;
                Checks.due("OP " + (word >>> 26) + ", behind " + n, host.count(7), due);
                host.run(1);
            }
        }
        Checks.due("TRAP 3", trapped(Words.jump(0, 1024)).count(7), 1024);
    }

    private static void countOutput() {
        StageHost host = Words.host(Words.put(0), Words.jump(0, -1));
        int[][] due = {{0, 0}, {4, 0}, {5, 1}, {6, 1}, {7, 2}, {2002, 999}, {2003, 1000}, {2005, 1001}, {5003, 2500}};
        int cycle = 0;
        for (int[] at : due) {
            host.run(at[0] - cycle);
            cycle = at[0];
            Checks.due("behind " + cycle, host.count(8), at[1]);
        }
    }

    private static void countRefused() {
        StageHost host = new StageHost();
        for (int what : new int[] {-1, 9, 10, -9, LEAST, MOST}) {
            Checks.dueThrow("count(" + what + ")", ARGUMENT, () -> host.count(what));
        }
        Tries.dueAnew("refused", host);
    }

    public static void main(String[] args) {
        Checks.sentence("An object is used for at most 512 calls after it has been made",
            PromisesBoundaryTest::all512Calls);
        Checks.sentence("StageHost(): CODE 0", PromisesBoundaryTest::newCode);
        Checks.sentence("StageHost(): DATA 0", PromisesBoundaryTest::newData);
        Checks.sentence("StageHost(): as begin() leaves it", PromisesBoundaryTest::newAsBegun);
        Checks.sentence("code: Word k of CODE is w", PromisesBoundaryTest::codeIsGiven);
        Checks.sentence("code: (from the next begin() on)", PromisesBoundaryTest::codeFromBeginOn);
        Checks.sentence("code: IndexOutOfBoundsException: there is none", PromisesBoundaryTest::codeRefused);
        Checks.sentence("data: Word k of DATA is w", PromisesBoundaryTest::dataIsGiven);
        Checks.sentence("data: at the next begin()", PromisesBoundaryTest::dataAtBegin);
        Checks.sentence("data: IndexOutOfBoundsException: there is none", PromisesBoundaryTest::dataRefused);
        Checks.sentence("begin: All anew, no CYCLE done, nothing put out: registers 0",
            PromisesBoundaryTest::beginAnew);
        Checks.sentence("begin: CODE and DATA as they were given", PromisesBoundaryTest::beginGivesAgain);
        Checks.sentence("begin: All anew: the COUNT is at first 1", PromisesBoundaryTest::beginForgetsCounts);
        Checks.sentence("begin: All anew: the CALLS are none", PromisesBoundaryTest::beginForgetsCalls);
        Checks.sentence("begin: All anew: who had not told yet tells nothing",
            PromisesBoundaryTest::beginForgetsTheUntold);
        Checks.sentence("begin: All anew: none is HELD", PromisesBoundaryTest::beginForgetsLines);
        Checks.sentence("begin: All anew: F[0] = 1, and no one before it", PromisesBoundaryTest::beginForgetsStages);
        Checks.sentence("run: At most n more CYCLES", PromisesBoundaryTest::runMostCycles);
        Checks.sentence("run: At most n more CYCLES, at once or in pieces", PromisesBoundaryTest::runInPieces);
        Checks.sentence("run: (none once it has ended)", PromisesBoundaryTest::runOnceEnded);
        Checks.sentence("run: 0 it goes on, 1 END, 2 a TRAP", PromisesBoundaryTest::runAnswers);
        Checks.sentence("run: IllegalArgumentException: n is not 0..100000", PromisesBoundaryTest::runRefused);
        Checks.sentence("register: IndexOutOfBoundsException: there is none", PromisesBoundaryTest::registerRefused);
        Checks.sentence("memory: IndexOutOfBoundsException: there is none", PromisesBoundaryTest::memoryRefused);
        Checks.sentence("output: What was put out as k-th (from 0)", PromisesBoundaryTest::outputFromZero);
        Checks.sentence("output: IndexOutOfBoundsException: there is none", PromisesBoundaryTest::outputRefused);
        Checks.sentence("output: there is none (of the first 1000)", PromisesBoundaryTest::outputOfTheFirst);
        Checks.sentence("count 0: how it ended (0, 1, 2 as run())", PromisesBoundaryTest::countHowItEnded);
        Checks.sentence("count 1: CYCLES", PromisesBoundaryTest::countCycles);
        Checks.sentence("count 2: instructions with W at most these, but END and TRAP",
            PromisesBoundaryTest::countDone);
        Checks.sentence("count 3: of these: wrong GUESSES", PromisesBoundaryTest::countWrongGuesses);
        Checks.sentence("count 4: of these: MISSES", PromisesBoundaryTest::countMisses);
        Checks.sentence("count 5: of these: 40 to 43 that went on at PC + I", PromisesBoundaryTest::countBranches);
        Checks.sentence("count 6: which TRAP (0 none)", PromisesBoundaryTest::countTrap);
        Checks.sentence("count 7: PC of the latest one with W at most the CYCLES (END, TRAP, too; -1 none)",
            PromisesBoundaryTest::countPc);
        Checks.sentence("count 8: what was put out (all of it)", PromisesBoundaryTest::countOutput);
        Checks.sentence("count: IllegalArgumentException for others", PromisesBoundaryTest::countRefused);
        Checks.end();
    }
}
