/** Terms 1: each sentence that names an edge of the words and numbers has a method of its own. */
public final class TermsBoundaryTest {
    private static final int LEAST = Tries.LEAST;
    private static final int MOST = Tries.MOST;
    private static final int LEAST_NUMBER = -8192;
    private static final int MOST_NUMBER = 8191;

    private TermsBoundaryTest() {
    }

    private static void codeHas1024Words() {
        StageHost host = Words.host(Words.jump(1, 1023));
        host.code(1023, Words.jump(2, -1022));
        host.code(1, Words.put(2));
        host.code(2, -1);
        host.begin();
        Tries.dueTrap("from 0 to 1023 and back, then 32 bits of 1", host, 1, 2);
        Checks.due("behind 0: D", host.register(1), 1);
        Checks.due("behind 1023: D", host.register(2), 1024);
        Checks.due("put out", host.output(0), 1024);
    }

    private static void dataHas1024Words() {
        StageHost host = Words.host(Words.load(1, 0, 0), Words.load(2, 0, 1023), Words.store(0, 2, 0),
            Words.store(0, 1, 1023), Words.END);
        host.data(0, LEAST);
        host.data(1023, MOST);
        host.begin();
        Checks.due("run", host.run(100), 1);
        Checks.due("register(1)", host.register(1), LEAST);
        Checks.due("register(2)", host.register(2), MOST);
        Checks.due("memory(0)", host.memory(0), MOST);
        Checks.due("memory(1023)", host.memory(1023), LEAST);
    }

    private static void registersAre16() {
        StageHost host = new StageHost();
        for (int k = 1; k < 16; k++) {
            host.code(k - 1, Words.set(k, 100 + k));
        }
        for (int k = 0; k < 16; k++) {
            host.code(15 + k, Words.put(k));
        }
        host.code(31, Words.END);
        host.begin();
        Checks.due("run", host.run(100), 1);
        for (int k = 0; k < 16; k++) {
            int due = k == 0 ? 0 : 100 + k;
            Checks.due("register(" + k + ")", host.register(k), due);
            Checks.due("register " + k + " put out", host.output(k), due);
        }
    }

    private static void registerZeroIsZero() {
        for (int op = 0; op < 64; op++) {
            boolean gets = op <= 12 || op >= 16 && op <= 26 || op == 32 || op == 44 || op == 45;
            if (!gets) {
                continue;
            }
            // 45 goes on at 1 + 3; I of 44 is 1 less, for it counts from PC 3.
            int i = op == 44 ? 1 : 3;
            StageHost host = Words.host(Words.set(1, 1), Words.set(2, 3), 0, Words.word(op, 0, 1, 2, i),
                Words.put(0), Words.two(0, 3, 0, 0), Words.END);
            Tries.withData(host, 9, 9, 9, 9, 9);
            Checks.due("OP " + op + ": run", host.run(100), 1);
            Checks.due("OP " + op + ": register(0)", host.register(0), 0);
            Checks.due("OP " + op + ": register 0 put out", host.output(0), 0);
            Checks.due("OP " + op + ": register 0 + register 0", host.register(3), 0);
        }
    }

    private static void dueOnly(int d, StageHost host) {
        for (int k = 1; k < 16; k++) {
            Checks.due("D " + d + ": register(" + k + ")", host.register(k), k == d ? 1 : 0);
        }
    }

    private static void fieldD() {
        for (int d = 1; d < 16; d++) {
            StageHost host = Words.host(16 << 26 | d << 22 | 1, Words.END);
            host.run(100);
            dueOnly(d, host);
        }
    }

    /** Words that give register k 100 + k, then these. */
    private static StageHost allSet(int... words) {
        StageHost host = new StageHost();
        for (int k = 1; k < 16; k++) {
            host.code(k, Words.set(k, 100 + k));
        }
        for (int k = 0; k < words.length; k++) {
            host.code(16 + k, words[k]);
        }
        host.begin();
        return host;
    }

    private static void fieldA() {
        for (int a = 1; a < 16; a++) {
            StageHost host = allSet(49 << 26 | a << 18, Words.END);
            host.run(100);
            Checks.due("A " + a, host.output(0), 100 + a);
        }
    }

    private static void fieldB() {
        for (int b = 1; b < 16; b++) {
            StageHost host = allSet(3 << 26 | 1 << 22 | b << 14, Words.END);
            host.run(100);
            Checks.due("B " + b, host.register(1), 100 + b);
        }
    }

    private static void fieldI() {
        for (int k = 0; k < 14; k++) {
            StageHost host = Words.host(16 << 26 | 1 << 22 | 1 << k, Words.END);
            host.run(100);
            Checks.due("bit " + k, host.register(1), k == 13 ? LEAST_NUMBER : 1 << k);
        }
        Tries.dueWithNumber(16, 0, 0x1fff, MOST_NUMBER);
        Tries.dueWithNumber(16, 0, 0x2000, LEAST_NUMBER);
        Tries.dueWithNumber(16, 0, 0x3fff, -1);
    }

    private static void numbersWrap() {
        Tries.dueOfTwo(0, MOST, 1, LEAST);
        Tries.dueOfTwo(0, LEAST, LEAST, 0);
        Tries.dueOfTwo(0, LEAST, -1, MOST);
        Tries.dueOfTwo(1, LEAST, 1, MOST);
        Tries.dueOfTwo(1, MOST, -1, LEAST);
        Tries.dueOfTwo(1, 0, LEAST, LEAST);
        Tries.dueOfTwo(5, MOST, 1, -2);
        Tries.dueOfTwo(10, 65536, 65536, 0);
        Tries.dueOfTwo(10, 65536, 65537, 65536);
        Tries.dueOfTwo(10, LEAST, -1, LEAST);
        Tries.dueOfTwo(10, MOST, MOST, 1);
        Tries.dueWithNumber(16, MOST, MOST_NUMBER, LEAST + MOST_NUMBER - 1);
        Tries.dueWithNumber(17, LEAST, MOST_NUMBER, MOST - MOST_NUMBER + 1);
    }

    private static void shifts() {
        int[] none = {0, 32, 64, -32, LEAST};
        for (int by : none) {
            Tries.dueOfTwo(5, -5, by, -5);
            Tries.dueOfTwo(6, -5, by, -5);
            Tries.dueOfTwo(7, -5, by, -5);
        }
        int[] all = {31, 63, -1, MOST};
        for (int by : all) {
            Tries.dueOfTwo(5, 3, by, LEAST);
            Tries.dueOfTwo(6, LEAST, by, 1);
            Tries.dueOfTwo(7, LEAST, by, -1);
            Tries.dueOfTwo(7, MOST, by, 0);
        }
        Tries.dueOfTwo(5, 3, 33, 6);
        Tries.dueOfTwo(6, -2, 33, MOST);
        Tries.dueOfTwo(7, -2, 33, -1);
    }

    private static void below() {
        int[][] pairs = {{5, 5, 0, 0}, {4, 5, 1, 1}, {5, 4, 0, 0}, {-1, 0, 1, 0}, {0, -1, 0, 1},
            {LEAST, MOST, 1, 0}, {MOST, LEAST, 0, 1}, {LEAST, LEAST, 0, 0}, {-1, -1, 0, 0}, {-2, -1, 1, 1},
            {0, LEAST, 0, 1}, {LEAST, 0, 1, 0}};
        for (int[] p : pairs) {
            Tries.dueOfTwo(8, p[0], p[1], p[2]);
            Tries.dueOfTwo(9, p[0], p[1], p[3]);
        }
    }

    private static void quotientTowardsZero() {
        Tries.dueOfTwo(11, 7, 2, 3);
        Tries.dueOfTwo(11, -7, 2, -3);
        Tries.dueOfTwo(11, 7, -2, -3);
        Tries.dueOfTwo(11, -7, -2, 3);
        Tries.dueOfTwo(11, -1, MOST, 0);
        Tries.dueOfTwo(11, LEAST, 1, LEAST);
        Tries.dueOfTwo(11, LEAST, LEAST, 1);
    }

    private static void quotientByZero() {
        int[] all = {0, 1, -1, 7, LEAST, MOST};
        for (int a : all) {
            Tries.dueOfTwo(11, a, 0, -1);
        }
    }

    private static void quotientThatWraps() {
        Tries.dueOfTwo(11, LEAST, -1, LEAST);
        Tries.dueOfTwo(11, MOST, -1, -MOST);
    }

    private static void restOfTwo() {
        Tries.dueOfTwo(12, 7, 2, 1);
        Tries.dueOfTwo(12, -7, 2, -1);
        Tries.dueOfTwo(12, 7, -2, 1);
        Tries.dueOfTwo(12, -7, -2, -1);
        Tries.dueOfTwo(12, LEAST, MOST, -1);
    }

    private static void restByZero() {
        int[] all = {0, 1, -1, 7, LEAST, MOST};
        for (int a : all) {
            Tries.dueOfTwo(12, a, 0, a);
        }
    }

    private static void restThatWraps() {
        Tries.dueOfTwo(12, LEAST, -1, 0);
        Tries.dueOfTwo(12, MOST, -1, 0);
    }

    private static void withNumber() {
        Tries.dueWithNumber(16, 1, LEAST_NUMBER, LEAST_NUMBER + 1);
        Tries.dueWithNumber(17, 0, LEAST_NUMBER, 8192);
        Tries.dueWithNumber(18, -1, LEAST_NUMBER, LEAST_NUMBER);
        Tries.dueWithNumber(19, 1, LEAST_NUMBER, LEAST_NUMBER + 1);
        Tries.dueWithNumber(20, -1, LEAST_NUMBER, MOST_NUMBER);
        Tries.dueWithNumber(21, 3, -1, LEAST);
        Tries.dueWithNumber(21, 3, 33, 6);
        Tries.dueWithNumber(22, LEAST, -1, 1);
        Tries.dueWithNumber(22, -2, 33, MOST);
        Tries.dueWithNumber(23, LEAST, -1, -1);
        Tries.dueWithNumber(23, -2, 32, -2);
        Tries.dueWithNumber(24, LEAST_NUMBER - 1, LEAST_NUMBER, 1);
        Tries.dueWithNumber(24, LEAST_NUMBER, LEAST_NUMBER, 0);
        Tries.dueWithNumber(25, MOST, LEAST_NUMBER, 1);
        Tries.dueWithNumber(25, -1, -1, 0);
        Tries.dueWithNumber(25, MOST_NUMBER, MOST_NUMBER, 0);
    }

    private static void highNumber() {
        Tries.dueWithNumber(26, 77, 0, 0);
        Tries.dueWithNumber(26, 77, 1, 1 << 18);
        Tries.dueWithNumber(26, 77, -1, -(1 << 18));
        Tries.dueWithNumber(26, 77, MOST_NUMBER, MOST - (1 << 18) + 1);
        Tries.dueWithNumber(26, 77, LEAST_NUMBER, LEAST);
    }

    private static StageHost accessing(int op, int a, int i) {
        StageHost host = Words.host(Words.load(1, 0, 5), Words.load(2, 0, 6), Words.word(op, 3, 1, 2, i), Words.END);
        host.data(5, a);
        host.data(6, 66);
        return host;
    }

    private static void dueAccess(int a, int i, int word) {
        StageHost load = accessing(32, a, i);
        load.data(word, 55);
        load.begin();
        Checks.due("32 of " + a + " + " + i + ": run", load.run(100), 1);
        Checks.due("32 of " + a + " + " + i, load.register(3), 55);
        StageHost store = accessing(33, a, i);
        store.begin();
        Checks.due("33 of " + a + " + " + i + ": run", store.run(100), 1);
        Checks.due("33 of " + a + " + " + i, store.memory(word), 66);
    }

    private static void accesses() {
        dueAccess(0, 0, 0);
        dueAccess(0, 1023, 1023);
        dueAccess(1023, 0, 1023);
        dueAccess(1024, -1, 1023);
        dueAccess(-1, 1, 0);
        dueAccess(8192, LEAST_NUMBER, 0);
        dueAccess(9215, LEAST_NUMBER, 1023);
        dueAccess(-MOST_NUMBER, MOST_NUMBER, 0);
        dueAccess(1023 - MOST_NUMBER, MOST_NUMBER, 1023);
    }

    private static void dueBranch(int op, int a, int b, boolean holds) {
        StageHost host = Words.host(Words.load(1, 0, 0), Words.load(2, 0, 1), Words.branch(op, 1, 2, 5), Words.END);
        host.code(7, Words.END);
        Tries.withData(host, a, b);
        Checks.due("OP " + op + " of " + a + ", " + b + ": run", host.run(100), 1);
        Checks.due("OP " + op + " of " + a + ", " + b + ": PC of the END", host.count(7), holds ? 7 : 3);
    }

    private static void branches() {
        int[][] pairs = {{4, 4}, {3, 4}, {4, 3}, {-1, 0}, {0, -1}, {LEAST, MOST}, {MOST, LEAST}, {LEAST, LEAST},
            {LEAST, 0}, {0, LEAST}};
        for (int[] p : pairs) {
            dueBranch(40, p[0], p[1], p[0] == p[1]);
            dueBranch(41, p[0], p[1], p[0] != p[1]);
            dueBranch(42, p[0], p[1], p[0] < p[1]);
            dueBranch(43, p[0], p[1], p[0] >= p[1]);
        }
    }

    private static void branchesFar() {
        Tries.dueTrap("the most", Words.host(Words.branch(40, 0, 0, MOST_NUMBER)), 3, MOST_NUMBER);
        Tries.dueTrap("the least", Words.host(0, Words.branch(43, 0, 0, LEAST_NUMBER)), 3, LEAST_NUMBER + 1);
        StageHost self = Words.host(Words.branch(40, 0, 0, 0));
        Checks.due("PC + 0: run", self.run(1000), 0);
        Checks.due("PC + 0: PC", self.count(7), 0);
    }

    private static void jumpsByPc() {
        Tries.dueTrap("the most", Words.host(Words.jump(1, MOST_NUMBER)), 3, MOST_NUMBER);
        Tries.dueTrap("the least", Words.host(0, Words.jump(1, LEAST_NUMBER)), 3, LEAST_NUMBER + 1);
        StageHost last = Words.host(Words.jump(1, 1023));
        last.code(1023, Words.jump(2, 1));
        last.begin();
        Tries.dueTrap("from 1023", last, 3, 1024);
        Checks.due("from 0: D", last.register(1), 1);
        Checks.due("from 1023: D", last.register(2), 1024);
        StageHost self = Words.host(Words.jump(3, 0));
        Checks.due("PC + 0: run", self.run(1000), 0);
        Checks.due("PC + 0: D", self.register(3), 1);
    }

    private static StageHost jumping(int a, int i) {
        StageHost host = Words.host(Words.load(1, 0, 0), Words.jumpBy(1, 1, i), Words.END);
        host.code(1023, Words.END);
        return Tries.withData(host, a);
    }

    private static void dueJump(int a, int i, int pc) {
        StageHost host = jumping(a, i);
        Checks.due("45 of " + a + " + " + i + ": run", host.run(100), 1);
        Checks.due("45 of " + a + " + " + i + ": PC", host.count(7), pc);
        Checks.due("45 of " + a + " + " + i + ": D, which is A too", host.register(1), 2);
    }

    private static void jumpsByRegister() {
        dueJump(2, 0, 2);
        dueJump(1023, 0, 1023);
        dueJump(1024, -1, 1023);
        dueJump(8194, LEAST_NUMBER, 2);
        dueJump(2 - MOST_NUMBER, MOST_NUMBER, 2);
        Tries.dueTrap("the most + 1 wraps", jumping(MOST, 1), 3, LEAST);
        Tries.dueTrap("the least - 1 wraps", jumping(LEAST, -1), 3, MOST);
    }

    private static void firstThousand() {
        StageHost host = Words.host(Words.put(1), Words.with(0, 1, 1, 1), Words.jump(0, -2));
        host.run(4 + 3 * 1002);
        Checks.due("1002 are put out", host.count(8), 1002);
        Checks.due("output(0)", host.output(0), 0);
        Checks.due("output(999)", host.output(999), 999);
        Checks.dueThrow("output(1000)", IndexOutOfBoundsException.class, () -> host.output(1000));
        Checks.dueThrow("output(1001)", IndexOutOfBoundsException.class, () -> host.output(1001));
    }

    private static void allOthersTrap() {
        int[] others = {13, 14, 15, 27, 28, 29, 30, 31, 34, 35, 36, 37, 38, 39, 46, 47, 50, 51, 52, 53, 54, 55,
            56, 57, 58, 59, 60, 61, 62, 63};
        for (int op : others) {
            StageHost host = Words.host(Words.word(op, 1, 0, 0, 1), Words.END);
            Tries.dueTrap("OP " + op, host, 1, 0);
        }
        int[] known = {0, 12, 16, 25, 26, 32, 33, 40, 43, 44, 45, 48, 49};
        for (int op : known) {
            StageHost host = Words.host(Words.word(op, 1, 0, 0, 1), Words.END);
            Checks.due("OP " + op + ": run", host.run(100), 1);
            Checks.due("OP " + op + ": which TRAP", host.count(6), 0);
        }
    }

    private static void dueNoWord(int a, int i) {
        for (int op = 32; op <= 33; op++) {
            StageHost host = Words.host(Words.load(1, 0, 0), Words.set(3, 7), Words.word(op, 3, 1, 3, i), Words.END);
            Tries.withData(host, a);
            String what = "OP " + op + " at " + a + " + " + i;
            Tries.dueTrap(what, host, 2, 2);
            Checks.due(what + ": register(3)", host.register(3), 7);
            Checks.due(what + ": memory(0)", host.memory(0), a);
            Checks.due(what + ": memory(1023)", host.memory(1023), 0);
        }
    }

    private static void accessOfNoWord() {
        dueNoWord(0, -1);
        dueNoWord(0, 1024);
        dueNoWord(-1, 0);
        dueNoWord(1023, 1);
        dueNoWord(1024, 0);
        dueNoWord(MOST, 1);
        dueNoWord(MOST, 0);
        dueNoWord(LEAST, 0);
        dueNoWord(LEAST, -1);
        // Its lowest bits alone would be words.
        dueNoWord(1 << 16, 0);
        dueNoWord(LEAST, 5);
    }

    private static void pcOfNoWord() {
        StageHost below = Tries.dueEnd("PC -1", 6, Words.jump(0, -1));
        Checks.due("PC -1: which TRAP", below.count(6), 3);
        Checks.due("PC -1: PC", below.count(7), -1);
        Checks.due("PC -1: done", below.count(2), 1);
        StageHost above = Tries.dueEnd("PC 1024", 6, Words.jump(0, 1024));
        Checks.due("PC 1024: which TRAP", above.count(6), 3);
        Checks.due("PC 1024: PC", above.count(7), 1024);
        StageHost over = Words.host(Words.jump(0, 1023));
        Tries.dueTrap("over the last word", over, 3, 1024);
        Checks.due("over the last word: done", over.count(2), 2);
        Checks.due("over the last word: cycles", over.count(1), 7);
    }

    private static void otherRegistersDoNotMatter() {
        StageHost host = Words.host(Words.set(15, 3), Words.word(16, 4, 0, 15, 1), Words.word(26, 5, 15, 15, 1),
            Words.word(32, 6, 0, 15, 9), Words.word(33, 15, 0, 0, 9), Words.word(40, 15, 0, 0, 1),
            Words.word(44, 7, 15, 15, 1), Words.word(45, 8, 0, 15, 8), Words.word(49, 9, 15, 14, 77),
            Words.word(48, 15, 15, 15, 77));
        host.data(9, 90);
        host.begin();
        Checks.due("run", host.run(1000), 1);
        int[] due = {0, 0, 0, 0, 1, 1 << 18, 90, 7, 8, 0, 0, 0, 0, 0, 0, 3};
        for (int k = 0; k < 16; k++) {
            Checks.due("register(" + k + ")", host.register(k), due[k]);
        }
        Checks.due("memory(9)", host.memory(9), 0);
        Checks.due("output(0)", host.output(0), 3);
        for (int op = 16; op <= 25; op++) {
            StageHost number = Words.host(Words.set(2, 1), Words.word(op, 1, 2, 2, 0), Words.END);
            StageHost same = Words.host(Words.set(2, 1), Words.word(op, 1, 2, 0, 0), Words.END);
            number.run(100);
            same.run(100);
            Checks.due("OP " + op + " with B 2 as with B 0", number.register(1), same.register(1));
        }
    }

    private static void endDoesNothing() {
        int[] last = {Words.word(48, 1, 2, 2, 1), Words.word(13, 1, 2, 2, 1), Words.word(63, 1, 2, 2, 1),
            Words.word(32, 1, 0, 2, -1), Words.word(33, 1, 0, 2, -1)};
        for (int word : last) {
            String what = "OP " + (word >>> 26);
            StageHost host = Words.host(Words.set(1, 7), Words.set(2, 8), word, Words.set(1, 9), Words.put(2),
                Words.store(0, 2, 0), Words.END);
            host.run(100);
            Checks.due(what + ": register(1)", host.register(1), 7);
            Checks.due(what + ": register(2)", host.register(2), 8);
            Checks.due(what + ": memory(0)", host.memory(0), 0);
            Checks.due(what + ": done", host.count(2), 2);
            Checks.due(what + ": wrong guesses", host.count(3), 0);
            Checks.due(what + ": misses", host.count(4), 0);
            Checks.due(what + ": put out", host.count(8), 0);
            Checks.due(what + ": PC", host.count(7), 2);
        }
    }

    public static void main(String[] args) {
        Checks.sentence("CODE: 1024 words of 32 bits", TermsBoundaryTest::codeHas1024Words);
        Checks.sentence("DATA: 1024 words", TermsBoundaryTest::dataHas1024Words);
        Checks.sentence("registers 0..15", TermsBoundaryTest::registersAre16);
        Checks.sentence("register 0 is 0", TermsBoundaryTest::registerZeroIsZero);
        Checks.sentence("D 25 to 22", TermsBoundaryTest::fieldD);
        Checks.sentence("A 21 to 18", TermsBoundaryTest::fieldA);
        Checks.sentence("B 17 to 14", TermsBoundaryTest::fieldB);
        Checks.sentence("I 13 to 0 with sign", TermsBoundaryTest::fieldI);
        Checks.sentence("Numbers are two's complement and wrap", TermsBoundaryTest::numbersWrap);
        Checks.sentence("A left, right without sign, right with sign by the lowest 5 bits of B",
            TermsBoundaryTest::shifts);
        Checks.sentence("1 if A is below B with sign, without (else 0)", TermsBoundaryTest::below);
        Checks.sentence("11 A / B cut towards 0", TermsBoundaryTest::quotientTowardsZero);
        Checks.sentence("11 A / B (by 0: -1)", TermsBoundaryTest::quotientByZero);
        Checks.sentence("11 A / B (-2 ** 31 by -1: -2 ** 31)", TermsBoundaryTest::quotientThatWraps);
        Checks.sentence("12 what is left", TermsBoundaryTest::restOfTwo);
        Checks.sentence("12 what is left (by 0: A)", TermsBoundaryTest::restByZero);
        Checks.sentence("12 what is left (of -2 ** 31 by -1: 0)", TermsBoundaryTest::restThatWraps);
        Checks.sentence("16 to 25: as 0 to 9 with I instead of B", TermsBoundaryTest::withNumber);
        Checks.sentence("26: D is I * 2 ** 18", TermsBoundaryTest::highNumber);
        Checks.sentence("32: D is word A + I of DATA, 33: that is B", TermsBoundaryTest::accesses);
        Checks.sentence("40 to 43: if A = B, not =, A below B, not below (with sign) it goes on at PC + I",
            TermsBoundaryTest::branches);
        Checks.sentence("40 to 43: it goes on at PC + I, up to no word of CODE", TermsBoundaryTest::branchesFar);
        Checks.sentence("44: D is PC + 1, it goes on at PC + I", TermsBoundaryTest::jumpsByPc);
        Checks.sentence("45: D is PC + 1, it goes on at A + I", TermsBoundaryTest::jumpsByRegister);
        Checks.sentence("49: A is put out (the first 1000)", TermsBoundaryTest::firstThousand);
        Checks.sentence("All others: TRAP 1", TermsBoundaryTest::allOthersTrap);
        Checks.sentence("32, 33 with a word that is none: TRAP 2", TermsBoundaryTest::accessOfNoWord);
        Checks.sentence("where PC is no word of CODE: TRAP 3 (as an instruction there)", TermsBoundaryTest::pcOfNoWord);
        Checks.sentence("What the registers of the word are, but those named, does not matter",
            TermsBoundaryTest::otherRegistersDoNotMatter);
        Checks.sentence("up to an END or TRAP (of which it does nothing)", TermsBoundaryTest::endDoesNothing);
        Checks.end();
    }
}
