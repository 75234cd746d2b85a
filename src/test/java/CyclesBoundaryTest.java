/** Terms 2 and 3: each sentence that names an edge has a method of its own, worked out by hand. */
public final class CyclesBoundaryTest {
    private static final int RETURN = Words.jumpBy(0, 15, 0);
    private static final int TAKEN_BY_1 = Words.branch(40, 0, 0, 1);

    private CyclesBoundaryTest() {
    }

    private static void countedFromOne() {
        Tries.dueEnd("END in F 1, D 2, X 3, M 4, W 5", 5, Words.END);
        Tries.dueEnd("TRAP in F 1, D 2, X 3, M 4, W 5", 5, -1);
    }

    private static void withoutOneBefore() {
        // Registers that no one got are waited for by no one.
        int[] first = {Words.two(0, 1, 2, 3), Words.store(2, 3, 0), Words.branch(41, 2, 3, 5), Words.put(9),
            Words.jumpBy(1, 2, 1)};
        for (int word : first) {
            StageHost host = Tries.dueEnd("OP " + (word >>> 26) + " first", 6, word, Words.END);
            Checks.due("OP " + (word >>> 26) + " first: done", host.count(2), 1);
        }
    }

    private static void oneCycleInW() {
        StageHost host = Words.host(Words.load(1, 0, 0), 0, 0, 0, Words.END);
        host.run(12);
        for (int k = 0; k < 5; k++) {
            Checks.due("behind cycle " + (12 + k), host.count(2), k);
            host.run(1);
        }
        Checks.due("the END has W in 17", host.count(0), 1);
    }

    private static void cyclesInX() {
        for (int op = 0; op <= 26; op++) {
            if (op < 13 || op > 15) {
                int more = op == 10 ? 2 : op == 11 || op == 12 ? 11 : 0;
                Tries.dueEnd("OP " + op, 6 + more, Words.word(op, 1, 2, 3, 1), Words.END);
            }
        }
        int[] others = {Words.store(0, 0, 0), TAKEN_BY_1, Words.jump(1, 1), Words.jumpBy(1, 0, 1), Words.put(0)};
        for (int word : others) {
            Tries.dueEnd("OP " + (word >>> 26), 6, word, Words.END);
        }
    }

    private static void cyclesInM() {
        Tries.dueEnd("a MISS", 14, Words.load(1, 0, 0), Words.END);
        Tries.dueEnd("a LINE that is HELD", 15, Words.load(1, 0, 0), Words.load(2, 0, 3), Words.END);
        Tries.dueEnd("a MISS behind a MISS", 23, Words.load(1, 0, 0), Words.load(2, 0, 4), Words.END);
        Tries.dueEnd("33 is no MISS", 6, Words.store(0, 0, 0), Words.END);
    }

    private static void nextInF() {
        Tries.dueEnd("guessed right: F 2", 6, Words.branch(41, 0, 0, 2), Words.END, Words.END);
        Tries.dueEnd("guessed wrong: XE 3, F 4", 8, Words.branch(40, 0, 0, 2), 0, Words.END);
        // 10 is in X from 3 to 5, the branch in X 6: F 7 of the END.
        Tries.dueEnd("guessed wrong behind 10", 11, Words.two(10, 1, 0, 0), Words.branch(40, 0, 0, 2), 0, Words.END);
        // The load has ME 12, the branch waits till X 13: F 14 of the END.
        Tries.dueEnd("guessed wrong behind a MISS", 18, Words.load(1, 0, 0), Words.branch(40, 1, 0, 2), 0, Words.END);
    }

    /** At 0 and 1 a long one and a branch whose COUNT goes to 2, then these; at 65 it is taken. */
    private static void dueWrongAt65(String what, int wrong, int... words) {
        StageHost host = Words.host(Words.two(10, 1, 0, 0), TAKEN_BY_1);
        for (int k = 0; k < words.length; k++) {
            host.code(2 + k, words[k]);
        }
        host.code(2 + words.length, Words.jump(0, 63 - words.length));
        host.code(65, Words.branch(40, 0, 0, 2));
        host.code(67, Words.END);
        host.begin();
        Tries.dueWrongOf(what, wrong, host);
    }

    private static void nextInD() {
        // 10: X 3 to 5, M 6. The branch at 1: D 3, X 6. The one behind it: F 3, D 6, for X is not free.
        dueWrongAt65("F 6 at 65, XE 6 of the branch", 1);
        dueWrongAt65("F 7 at 65, XE 6 of the branch", 0, 0);
    }

    private static void nextInX() {
        Tries.dueEnd("D + 1", 6, 0, Words.END);
        // X 3 to 5 and M 6 of the first, X 6 to 8 and M 9 of the second.
        Tries.dueEnd("M of 10 before it", 11, Words.two(10, 1, 0, 0), Words.two(10, 2, 0, 0), Words.END);
        Tries.dueEnd("M of 11 before it", 29, Words.two(11, 1, 0, 0), Words.two(11, 2, 0, 0), Words.END);
        Tries.dueEnd("READY of 32", 18, Words.load(1, 0, 0), Words.two(10, 2, 1, 1), Words.END);
        Tries.dueEnd("not READY of 32, for it is not read", 15, Words.load(1, 0, 0), Words.two(10, 2, 3, 3), Words.END);
    }

    private static void registerZeroIsNotWaitedFor() {
        int zero = Words.load(0, 0, 0);
        Tries.dueEnd("A and B 0", 15, zero, Words.two(0, 2, 0, 0), Words.END);
        Tries.dueEnd("B of 33 0", 15, zero, Words.store(0, 0, 0), Words.END);
        Tries.dueEnd("A 15", 16, Words.load(15, 0, 0), Words.two(0, 2, 15, 0), Words.END);
        Tries.dueEnd("B 15", 16, Words.load(15, 0, 0), Words.two(0, 2, 0, 15), Words.END);
        Tries.dueEnd("A 1", 16, Words.load(1, 0, 0), Words.two(0, 2, 1, 0), Words.END);
    }

    private static void storeReadsAAlone() {
        Tries.dueEnd("A of 33", 16, Words.load(1, 0, 0), Words.store(1, 0, 0), Words.END);
        Tries.dueEnd("B of 33", 15, Words.load(1, 0, 0), Words.store(0, 1, 0), Words.END);
    }

    private static void othersReadNothing() {
        int load = Words.load(1, 0, 0);
        int[] readers = {Words.two(9, 2, 1, 0), Words.two(9, 2, 0, 1), Words.with(9, 2, 1, 0), Words.load(2, 1, 0),
            Words.branch(43, 1, 0, 1), Words.branch(43, 0, 1, 1), Words.put(1)};
        for (int word : readers) {
            Tries.dueEnd("OP " + (word >>> 26) + " reads it", 16, load, word, Words.END);
        }
        Tries.dueEnd("OP 45 reads it, guessed right", 16, load, Words.jumpBy(2, 1, 2), Words.END);
        int[] others = {Words.word(16, 2, 0, 1, 0), Words.word(26, 2, 1, 1, 0), Words.word(32, 2, 0, 1, 0),
            Words.word(33, 1, 0, 0, 0), Words.word(40, 1, 0, 0, 1), Words.word(44, 2, 1, 1, 1),
            Words.word(45, 2, 0, 1, 2), Words.word(49, 1, 0, 1, 0)};
        for (int word : others) {
            Tries.dueEnd("OP " + (word >>> 26) + " does not read it", 15, load, word, Words.END);
        }
        Tries.dueEnd("END reads nothing", 14, load, Words.word(48, 1, 1, 1, 0));
        Tries.dueEnd("TRAP 1 reads nothing", 14, load, Words.word(63, 1, 1, 1, 0));
        Tries.dueEnd("TRAP 2 reads A", 15, load, Words.load(2, 1, -1));
        Tries.dueEnd("TRAP 3 reads nothing", 15, load, Words.jump(0, -2));
    }

    private static void latestOneThatGetsIt() {
        Tries.dueEnd("32 is the latest", 17, Words.set(1, 0), Words.load(1, 0, 0), Words.put(1), Words.END);
        Tries.dueEnd("32 is not the latest", 16, Words.load(1, 0, 0), Words.set(1, 1), Words.put(1), Words.END);
        Tries.dueEnd("XE of 10", 9, Words.two(10, 1, 0, 0), Words.put(1), Words.END);
    }

    private static void nextInM() {
        Tries.dueEnd("XE + 1", 6, 0, Words.END);
        Tries.dueEnd("W of a MISS before it", 15, Words.load(1, 0, 0), Words.set(2, 1), Words.END);
    }

    private static void storeOfWhatIsLoaded() {
        StageHost host = Words.host(Words.load(1, 0, 0), Words.store(0, 1, 1), Words.END);
        Tries.withData(host, 77);
        // ME 12 and W 13 of the load; M 13 and W 14 of the store.
        host.run(12);
        Checks.due("memory(1) behind cycle 12", host.memory(1), 0);
        host.run(1);
        Checks.due("memory(1) behind cycle 13", host.memory(1), 77);
        Checks.due("done behind cycle 13", host.count(2), 1);
        host.run(1);
        Checks.due("done behind cycle 14", host.count(2), 2);
        Tries.dueEnd("B 0", 15, Words.load(0, 0, 0), Words.store(0, 0, 1), Words.END);
    }

    /** These lead from 0 to 64, whose COUNT is that of 0, to a branch that is taken. */
    private static void dueWrongAt64(String what, int wrong, int... words) {
        StageHost host = Words.host(words);
        host.code(words.length, Words.jump(0, 64 - words.length));
        host.code(64, Words.branch(40, 0, 0, 2));
        host.code(66, Words.END);
        host.begin();
        Tries.dueWrongOf(what, wrong, host);
    }

    private static void countsToldBelowF() {
        dueWrongAt64("XE 3, F 3", 1, TAKEN_BY_1);
        dueWrongAt64("XE 3, F 4", 0, TAKEN_BY_1, 0);
        dueWrongAt64("XE 3, F 5", 0, TAKEN_BY_1, 0, 0);
    }

    private static void callsToldBelowF() {
        int call = Words.jump(15, 2);
        Tries.dueWrong("XE 3, F 2", 1, call, Words.END, RETURN);
        Tries.dueWrong("XE 3, F 3", 1, call, Words.END, 0, RETURN);
        Tries.dueWrong("XE 3, F 4", 0, call, Words.END, 0, 0, RETURN);
    }

    private static void returnsToldBelowF() {
        // Of the return at 11: F n, XE n + 2. What stands at 7 comes to F n + 2, at 8 to F n + 3.
        int[] words = {Words.jump(15, 4), Words.END, 0, 0, Words.with(0, 14, 15, 0), Words.jump(15, 4),
            Words.with(0, 15, 14, 0), RETURN, RETURN, 0, 0, RETURN};
        Tries.dueWrong("XE is F", 1, words);
        words[7] = 0;
        Tries.dueWrong("XE is F - 1", 0, words);
    }

    /** Branches with one COUNT, 64 words apart: T is taken, N is not; how many are guessed wrong. */
    private static void dueHistory(String history, int wrong) {
        StageHost host = new StageHost();
        for (int k = 0; k < history.length(); k++) {
            host.code(64 * k, Words.branch(history.charAt(k) == 'T' ? 40 : 41, 0, 0, 2));
            host.code(64 * k + 3, Words.jump(0, 61));
        }
        host.code(64 * history.length(), Words.END);
        host.begin();
        Tries.dueWrongOf("history " + history, wrong, host);
    }

    private static void countAtFirst() {
        dueHistory("T", 1);
        dueHistory("N", 0);
        dueHistory("TT", 1);
        dueHistory("NT", 1);
        dueHistory("NTT", 2);
    }

    private static void countOfTwoOrThree() {
        dueHistory("NN", 0);
        dueHistory("N", 0);
        dueHistory("TN", 2);
        dueHistory("TTN", 2);
        dueHistory("TNN", 2);
        dueHistory("NTN", 1);
    }

    private static void countThreeAtMost() {
        dueHistory("TTN", 2);
        dueHistory("TTNT", 2);
        dueHistory("TTTNNN", 3);
        dueHistory("TTTTNNT", 4);
        dueHistory("TTTTTTTTTTNNN", 3);
    }

    private static void countZeroAtLeast() {
        dueHistory("NNT", 1);
        dueHistory("NNTT", 2);
        dueHistory("NNTTT", 2);
        dueHistory("NNNTTT", 2);
        dueHistory("NNNNNNNNNNTTT", 2);
    }

    private static void countByItsRelation() {
        int failsBy1 = Words.branch(41, 0, 0, 1);
        dueWrongAt64("taken to PC + 1: up", 0, TAKEN_BY_1, 0);
        dueWrongAt64("not taken, on at PC + 1: down", 1, failsBy1, 0);
    }

    /** Two branches that are taken: the second one is guessed right if it has the COUNT of the first. */
    private static void dueOneCount(int first, int second, boolean one) {
        int beside = second + 3 < 1024 ? 3 : -3;
        StageHost host = Words.host(Words.jump(0, first));
        host.code(first, Words.branch(40, 0, 0, 2));
        host.code(first + 3, Words.jump(0, second - first - 3));
        host.code(second, Words.branch(40, 0, 0, beside));
        host.code(second + beside, Words.END);
        host.begin();
        Tries.dueWrongOf("branches at " + first + ", " + second, one ? 1 : 2, host);
    }

    private static void countOfSixBits() {
        dueOneCount(0, 64, true);
        dueOneCount(0, 960, true);
        dueOneCount(63, 127, true);
        dueOneCount(959, 1023, true);
        dueOneCount(0, 63, false);
        dueOneCount(63, 64, false);
        dueOneCount(960, 1023, false);
        for (int bit = 2; bit < 6; bit++) {
            dueOneCount(64, 128 + (1 << bit), false);
        }
        dueOneCount(64, 129, false);
        dueOneCount(64, 130, false);
        for (int bit = 6; bit < 10; bit++) {
            dueOneCount(0, 1 << bit, true);
        }
    }

    private static void noCalls() {
        Tries.dueWrong("none, on at PC + 1", 0, Words.set(15, 3), 0, RETURN, Words.END);
        Tries.dueWrong("none, on at PC + 2", 1, Words.set(15, 4), 0, RETURN, 0, Words.END);
        int call = Words.jump(15, 2);
        Tries.dueWrong("one, on there", 0, call, Words.END, 0, 0, RETURN);
        Tries.dueWrong("one, on at PC + 1", 1, call, Words.END, Words.set(15, 6), 0, 0, RETURN, Words.END);
        Tries.dueWrong("one, D 1", 1, call, Words.END, 0, 0, Words.jumpBy(1, 15, 0));
        Tries.dueWrong("one, A 14", 1, call, Words.END, Words.with(0, 14, 15, 0), 0, Words.jumpBy(0, 14, 0));
        Tries.dueWrong("one, D 1, on at PC + 1", 0, call, Words.END, 0, 0, Words.jumpBy(1, 15, 4), Words.END);
    }

    private static void othersGoOnBehind() {
        // One is on the CALLS: who took it for a return would guess 1, and would take it away.
        int[] others = {Words.word(0, 0, 15, 0, 0), Words.word(12, 0, 15, 0, 0), Words.word(16, 0, 15, 0, 0),
            Words.word(26, 0, 15, 0, 0), Words.word(32, 0, 15, 0, 0), Words.word(33, 0, 15, 0, 0),
            Words.word(41, 0, 15, 15, 0), Words.word(44, 0, 15, 0, 1), Words.word(45, 0, 14, 0, 5),
            Words.word(45, 1, 15, 0, 4), Words.word(49, 0, 15, 0, 0)};
        for (int word : others) {
            Tries.dueWrong("OP " + (word >>> 26), 0, Words.jump(15, 2), Words.END, 0, 0, word, 0, 0, RETURN);
        }
    }

    private static void whoIsPutOnTheCalls() {
        Tries.dueWrong("44", 0, Words.jump(15, 2), Words.END, 0, 0, RETURN);
        Tries.dueWrong("45, itself guessed wrong", 1, Words.jumpBy(15, 0, 2), Words.END, 0, 0, RETURN);
        Tries.dueWrong("45 with A 15 and D 15, itself guessed wrong", 1, Words.set(15, 5), 0, 0,
            Words.jumpBy(15, 15, 0), Words.END, 0, 0, RETURN);
        // Had one of these put something there, the return to PC + 1 would be guessed wrong.
        int[] others = {Words.word(33, 15, 0, 0, 0), Words.word(40, 15, 0, 0, 1), Words.word(49, 15, 0, 0, 0),
            Words.jump(14, 1), Words.jump(0, 1), Words.word(32, 15, 0, 0, 0), Words.word(45, 14, 0, 0, 1)};
        for (int word : others) {
            Tries.dueWrong("OP " + (word >>> 26), 0, word, 0, Words.set(15, 6), 0, 0, RETURN, Words.END);
        }
    }

    private static void topThatIsNone() {
        Tries.dueWrong("none goes, then one is put there", 0, Words.set(15, 3), 0, RETURN, Words.set(15, 6), 0, RETURN,
            Words.jump(15, 3), Words.END, 0, 0, 0, RETURN);
        // Gone by the first return: the second one, to PC + 1, finds none.
        Tries.dueWrong("the only one goes", 0, Words.jump(15, 5), Words.set(15, 4), 0, RETURN, Words.END, 0, 0, RETURN);
        // Not gone by a 45 with D 1: the return behind it finds it.
        Tries.dueWrong("none goes by D 1", 0, Words.jump(15, 2), Words.END, 0, 0, Words.jumpBy(1, 15, 4), 0, 0, RETURN);
    }

    /** So many calls in one another; each but the innermost keeps its register 15 in DATA. */
    private static StageHost nested(int depth) {
        StageHost host = Words.host(Words.jump(15, 10), Words.END);
        for (int k = 1; k < depth; k++) {
            int at = 10 * k;
            host.code(at, Words.store(0, 15, k));
            host.code(at + 1, Words.jump(15, 9));
            host.code(at + 2, Words.load(15, 0, k));
            host.code(at + 4, RETURN);
        }
        host.code(10 * depth + 3, RETURN);
        host.begin();
        return host;
    }

    private static void callsEightAtMost() {
        int[] depths = {1, 2, 7, 8, 9, 10, 16, 17, 20};
        for (int depth : depths) {
            Tries.dueWrongOf("depth " + depth, Math.max(0, depth - 8), nested(depth));
        }
    }

    private static void callsAreNoneBehindEight() {
        for (int depth = 7; depth <= 10; depth++) {
            StageHost host = nested(depth);
            // The outermost one goes on at its PC + 1 instead: the guess is right only if there is none.
            host.code(12, Words.set(15, 15));
            host.code(15, Words.END);
            host.begin();
            Tries.dueWrongOf("depth " + depth + ", on at PC + 1", depth <= 8 ? 1 : depth - 9, host);
        }
    }

    private static void lineOfFourWords() {
        Tries.dueMisses("4 to 7", 1, 4, 5, 6, 7, 4);
        Tries.dueMisses("7 to 4", 1, 7, 6, 5, 4);
        Tries.dueMisses("3, 4", 2, 3, 4);
        Tries.dueMisses("7, 8", 2, 7, 8);
        Tries.dueMisses("1020 to 1023", 1, 1020, 1021, 1022, 1023);
        Tries.dueMisses("1019, 1020", 2, 1019, 1020);
    }

    private static void sixteenPlaces() {
        int[] twice = new int[32];
        for (int k = 0; k < 32; k++) {
            twice[k] = 512 + 4 * (k % 16);
        }
        Tries.dueMisses("16 LINEs twice", 16, twice);
        for (int bit = 2; bit < 10; bit++) {
            int other = 1 << bit;
            Tries.dueMisses("0, " + other + ", 0, " + other, bit <= 5 ? 2 : 4, 0, other, 0, other);
        }
        Tries.dueMisses("60, 64, 60", 2, 60, 64, 60);
        Tries.dueMisses("63, 1023, 63", 3, 63, 1023, 63);
    }

    private static void latestMissIsHeld() {
        Tries.dueMisses("0, 64, 0, 64", 4, 0, 64, 0, 64);
        Tries.dueMisses("0, 0, 64, 64, 0", 3, 0, 0, 64, 64, 0);
        Tries.dueMisses("0, 64, 65, 66, 67", 2, 0, 64, 65, 66, 67);
    }

    private static void noneIsHeldAtFirst() {
        int[] all = new int[256];
        for (int k = 0; k < 256; k++) {
            all[k] = 4 * k;
        }
        Tries.dueMisses("all LINEs", 256, all);
        for (int k = 0; k < 16; k++) {
            Tries.dueMisses("the first of place " + k, 1, 4 * k);
            Tries.dueMisses("the last of place " + k, 1, 960 + 4 * k);
        }
    }

    private static void dueMissesOf(String what, int misses, int... words) {
        StageHost host = Words.host(words);
        Checks.due(what + ": run", host.run(1000), 1);
        Checks.due(what + ": misses", host.count(4), misses);
    }

    private static void storesChangeNoLine() {
        int store = Words.store(0, 0, 0);
        int load = Words.load(1, 0, 0);
        int far = Words.store(0, 0, 64);
        dueMissesOf("33 alone", 0, store, store, Words.END);
        dueMissesOf("33, then 32", 1, store, load, Words.END);
        dueMissesOf("32, 33 at the same place, 32", 1, load, far, load, Words.END);
        dueMissesOf("32, 33 of the same LINE, 32", 1, load, store, load, Words.END);
    }

    private static void missIsAnAccess() {
        StageHost none = Tries.dueEnd("of no word", 5, Words.load(1, 0, -1));
        Checks.due("of no word: misses", none.count(4), 0);
        StageHost above = Tries.dueEnd("of no word", 5, Words.load(1, 0, 1024));
        Checks.due("of no word: misses", above.count(4), 0);
    }

    private static void registersBehindW() {
        for (int n = 0; n < 8; n++) {
            StageHost host = Words.host(Words.set(1, 11), Words.set(2, 12), Words.END);
            host.run(n);
            Checks.due("register(1) behind " + n, host.register(1), n < 5 ? 0 : 11);
            Checks.due("register(2) behind " + n, host.register(2), n < 6 ? 0 : 12);
        }
    }

    private static void outputBehindW() {
        for (int n = 0; n < 8; n++) {
            StageHost host = Words.host(Words.put(0), Words.put(0), Words.END);
            host.run(n);
            Checks.due("put out behind " + n, host.count(8), n < 5 ? 0 : n < 6 ? 1 : 2);
            if (n < 5) {
                Checks.dueThrow("output(0) behind " + n, IndexOutOfBoundsException.class, () -> host.output(0));
            } else {
                Checks.due("output(0) behind " + n, host.output(0), 0);
            }
        }
    }

    private static void dataBehindMe() {
        for (int n = 0; n < 10; n++) {
            StageHost host = Words.host(Words.set(1, 9), Words.store(0, 1, 0), Words.store(0, 1, 1023), Words.END);
            host.run(n);
            Checks.due("memory(0) behind " + n, host.memory(0), n < 5 ? 0 : 9);
            Checks.due("memory(1023) behind " + n, host.memory(1023), n < 6 ? 0 : 9);
        }
        StageHost first = Words.host(Words.store(0, 0, 7), Words.END);
        first.data(7, 70);
        first.begin();
        first.run(3);
        Checks.due("the first one: memory(7) behind 3", first.memory(7), 70);
        first.run(1);
        Checks.due("the first one: memory(7) behind 4", first.memory(7), 0);
    }

    private static void dueNoFurther(String what, int ending, int last, int... words) {
        StageHost host = Words.host(words);
        Checks.due(what + ": run to one cycle before", host.run(last - 1), 0);
        Checks.due(what + ": run(1)", host.run(1), ending);
        Checks.due(what + ": run(1) again", host.run(1), ending);
        Checks.due(what + ": run(100000) again", host.run(100000), ending);
        Checks.due(what + ": cycles", host.count(1), last);
        StageHost over = Words.host(words);
        Checks.due(what + ": run(100000)", over.run(100000), ending);
        Checks.due(what + ": cycles of run(100000)", over.count(1), last);
    }

    private static void noFurtherCycles() {
        dueNoFurther("END", 1, 5, Words.END);
        dueNoFurther("END behind one", 1, 6, 0, Words.END);
        dueNoFurther("TRAP 1", 2, 5, -1);
        dueNoFurther("TRAP 2", 2, 5, Words.store(0, 0, -1));
        dueNoFurther("TRAP 3", 2, 6, Words.jump(0, -1));
    }

    public static void main(String[] args) {
        Checks.sentence("CYCLES are counted from 1; F[0] = 1", CyclesBoundaryTest::countedFromOne);
        Checks.sentence("Without an i - 1: nothing of it", CyclesBoundaryTest::withoutOneBefore);
        Checks.sentence("each till the next begins; W for one cycle", CyclesBoundaryTest::oneCycleInW);
        Checks.sentence("XE[i] = X[i] + T - 1, T 1 (of 10: 3, of 11, 12: 12)", CyclesBoundaryTest::cyclesInX);
        Checks.sentence("ME[i] = M[i], but M[i] + 8 for a MISS; W[i] = ME[i] + 1", CyclesBoundaryTest::cyclesInM);
        Checks.sentence("F[i] = D[i - 1] if the GUESS of i - 1 was where it really went on, else XE[i - 1] + 1",
            CyclesBoundaryTest::nextInF);
        Checks.sentence("D[i] = the greater one of F[i] + 1, X[i - 1]", CyclesBoundaryTest::nextInD);
        Checks.sentence("X[i] = the greatest of D[i] + 1, M[i - 1], and READY + 1", CyclesBoundaryTest::nextInX);
        Checks.sentence("for each register but 0 that i reads", CyclesBoundaryTest::registerZeroIsNotWaitedFor);
        Checks.sentence("that i reads (of 33 A alone)", CyclesBoundaryTest::storeReadsAAlone);
        Checks.sentence("each register that i reads: those that are named of its OP, and no other",
            CyclesBoundaryTest::othersReadNothing);
        Checks.sentence("READY + 1 of the latest one that does; READY is XE, of 32 ME",
            CyclesBoundaryTest::latestOneThatGetsIt);
        Checks.sentence("M[i] = the greatest of XE[i] + 1, W[i - 1]", CyclesBoundaryTest::nextInM);
        Checks.sentence("and of 33 READY + 1 of the latest one before it that gets B (if it is not 0)",
            CyclesBoundaryTest::storeOfWhatIsLoaded);
        Checks.sentence("GUESS, by what those told whose XE is below F[i]: the COUNT",
            CyclesBoundaryTest::countsToldBelowF);
        Checks.sentence("GUESS, by what those told whose XE is below F[i]: what is put on top of the CALLS",
            CyclesBoundaryTest::callsToldBelowF);
        Checks.sentence("GUESS, by what those told whose XE is below F[i]: the top one that goes",
            CyclesBoundaryTest::returnsToldBelowF);
        Checks.sentence("the COUNT (at first 1)", CyclesBoundaryTest::countAtFirst);
        Checks.sentence("PC + I if the COUNT is 2, 3, else PC + 1", CyclesBoundaryTest::countOfTwoOrThree);
        Checks.sentence("the COUNT goes up by 1 (3 at most)", CyclesBoundaryTest::countThreeAtMost);
        Checks.sentence("else down (0 at least)", CyclesBoundaryTest::countZeroAtLeast);
        Checks.sentence("if it went on at PC + I by its relation", CyclesBoundaryTest::countByItsRelation);
        Checks.sentence("the COUNT of PC (its lowest 6 bits)", CyclesBoundaryTest::countOfSixBits);
        Checks.sentence("of 45 with A 15 and D 0 the top of the CALLS, if there is one; of 45 else PC + 1",
            CyclesBoundaryTest::noCalls);
        Checks.sentence("of 45 else, and all others: PC + 1", CyclesBoundaryTest::othersGoOnBehind);
        Checks.sentence("of 44, 45 with D 15: PC + 1 is put on top of the CALLS",
            CyclesBoundaryTest::whoIsPutOnTheCalls);
        Checks.sentence("of 45 with A 15 and D 0 the top one goes, if there is one", CyclesBoundaryTest::topThatIsNone);
        Checks.sentence("the CALLS (8 at most: the oldest one goes)", CyclesBoundaryTest::callsEightAtMost);
        Checks.sentence("the CALLS (8 at most: the oldest one goes), so that behind 8 returns there is none",
            CyclesBoundaryTest::callsAreNoneBehindEight);
        Checks.sentence("LINE (4 words, those that only differ in the lowest two bits)",
            CyclesBoundaryTest::lineOfFourWords);
        Checks.sentence("There are 16 places, that of a LINE: bits 2 to 5 of the word",
            CyclesBoundaryTest::sixteenPlaces);
        Checks.sentence("each holds the LINE that the latest MISS there had", CyclesBoundaryTest::latestMissIsHeld);
        Checks.sentence("each holds the LINE (none at first)", CyclesBoundaryTest::noneIsHeldAtFirst);
        Checks.sentence("33 changes nothing of it", CyclesBoundaryTest::storesChangeNoLine);
        Checks.sentence("MISS: an access by 32 to a word", CyclesBoundaryTest::missIsAnAccess);
        Checks.sentence("Behind n CYCLES: registers: of instructions with W at most n",
            CyclesBoundaryTest::registersBehindW);
        Checks.sentence("Behind n CYCLES: what was put out: of instructions with W at most n",
            CyclesBoundaryTest::outputBehindW);
        Checks.sentence("Behind n CYCLES: DATA: ME at most n", CyclesBoundaryTest::dataBehindMe);
        Checks.sentence("It has ended behind W of the END or TRAP; no further CYCLES are done",
            CyclesBoundaryTest::noFurtherCycles);
        Checks.end();
    }
}
