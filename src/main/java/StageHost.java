import java.util.Arrays;

/** A processor in five stages; ../shared/DOC.md tells its promises and the words used here. */
public final class StageHost {
    private static final int WORDS = 1024;
    private static final int REGISTERS = 16;
    private static final int MOST_CYCLES_A_RUN = 100000;
    /** As far as the 512 calls of an object can come: up to here no sum of cycles wraps. */
    private static final int LAST_CYCLE = 512 * MOST_CYCLES_A_RUN;

    private static final int GOES_ON = 0;
    private static final int ENDED = 1;
    private static final int TRAPPED = 2;

    private static final int LAST_OF_TWO = 12;
    private static final int FIRST_WITH_NUMBER = 16;
    private static final int LAST_WITH_NUMBER = 25;
    private static final int HIGH_NUMBER = 26;
    private static final int LOAD = 32;
    private static final int STORE = 33;
    private static final int FIRST_BRANCH = 40;
    private static final int LAST_BRANCH = 43;
    private static final int JUMP = 44;
    private static final int JUMP_BY_REGISTER = 45;
    private static final int END = 48;
    private static final int PUT_OUT = 49;
    /** Stands for the OP where there is no word: no word's six bits tell it. */
    private static final int NO_WORD = 64;

    private final Machine machine;

    public StageHost() {
        machine = new Machine();
        machine.restart();
    }

    public void code(int k, int w) throws IndexOutOfBoundsException {
        if (k < 0 || k >= WORDS) {
            throw new IndexOutOfBoundsException();
        }
        machine.givenCode[k] = w;
    }

    public void data(int k, int w) throws IndexOutOfBoundsException {
        if (k < 0 || k >= WORDS) {
            throw new IndexOutOfBoundsException();
        }
        machine.givenData[k] = w;
    }

    public void begin() {
        machine.restart();
    }

    public int run(int n) throws IllegalArgumentException {
        if (n < 0 || n > MOST_CYCLES_A_RUN) {
            throw new IllegalArgumentException();
        }
        machine.advance(n);
        return machine.tally.ending;
    }

    public int register(int k) throws IndexOutOfBoundsException {
        if (k < 0 || k >= REGISTERS) {
            throw new IndexOutOfBoundsException();
        }
        return machine.registers[k];
    }

    public int memory(int k) throws IndexOutOfBoundsException {
        if (k < 0 || k >= WORDS) {
            throw new IndexOutOfBoundsException();
        }
        return machine.store[k];
    }

    public int output(int k) throws IndexOutOfBoundsException {
        if (k < 0 || k >= machine.outlet.kept()) {
            throw new IndexOutOfBoundsException();
        }
        return machine.outlet.first[k];
    }

    public int count(int what) throws IllegalArgumentException {
        Tally tally = machine.tally;
        switch (what) {
            case 0:
                return tally.ending;
            case 1:
                return machine.cycles;
            case 2:
                return tally.done;
            case 3:
                return tally.wrongGuesses;
            case 4:
                return tally.misses;
            case 5:
                return tally.branchesTaken;
            case 6:
                return tally.trap;
            case 7:
                return tally.latestPc;
            case 8:
                return machine.outlet.total;
            default:
                throw new IllegalArgumentException();
        }
    }

    /**
     * Does one instruction after the other. Two never have W in the same cycle and no ME comes
     * before the W of the one before, so that only one, the one under way, is ever looked at
     * ahead: its sums and what it will do are known, but shown when its cycle has come.
     */
    private static final class Machine {
        final int[] givenCode = new int[WORDS];
        final int[] givenData = new int[WORDS];
        final int[] store = new int[WORDS];
        final int[] registers = new int[REGISTERS];
        final Outlet outlet = new Outlet();
        final Tally tally = new Tally();
        int cycles;
        private final int[] program = new int[WORDS];
        private final Word word = new Word();
        private final Deed deed = new Deed();
        private final Stages stages = new Stages();
        private final Guesser guesser = new Guesser();
        private final Lines lines = new Lines();
        private boolean guessedRight;
        private boolean missed;

        void restart() {
            System.arraycopy(givenCode, 0, program, 0, WORDS);
            System.arraycopy(givenData, 0, store, 0, WORDS);
            Arrays.fill(registers, 0);
            outlet.total = 0;
            tally.clear();
            cycles = 0;
            stages.clear();
            guesser.clear();
            lines.clear();
            start(0);
        }

        void advance(int n) {
            int goal = Math.min(cycles + n, LAST_CYCLE);
            for (int i = 0; i < n && tally.ending == GOES_ON && stages.w <= goal; i++) {
                finish();
                if (tally.ending == GOES_ON) {
                    start(deed.next);
                }
            }
            cycles = tally.ending == GOES_ON ? goal : stages.w;
            if (stages.me <= cycles) {
                storeWord();
            }
        }

        private void start(int pc) {
            word.take(pc, program);
            guesser.heedThoseBelow(stages.f);
            int guess = guesser.guess(word);
            deed.work(word, registers, store);
            missed = deed.isLoad(word) && lines.miss(deed.address);
            stages.pass(word, missed);
            guesser.hear(word, deed.taken, stages.xe);
            guessedRight = guess == deed.next;
        }

        private void finish() {
            tally.latestPc = word.pc;
            if (deed.ending != GOES_ON) {
                tally.ending = deed.ending;
                tally.trap = deed.trap;
                return;
            }
            storeWord();
            if (word.getsD() && word.d != 0) {
                registers[word.d] = deed.value;
            }
            if (word.op == PUT_OUT) {
                outlet.put(deed.value);
            }
            tally.add(guessedRight, missed, deed.taken);
            stages.goOn(guessedRight);
        }

        /** May be done twice, at ME and at W: nothing else is stored in between. */
        private void storeWord() {
            if (deed.isStore(word)) {
                store[deed.address] = deed.value;
            }
        }
    }

    /** An instruction's word, cut into its fields. */
    private static final class Word {
        int pc;
        int op;
        int d;
        int a;
        int b;
        int i;

        void take(int at, int[] program) {
            boolean isThere = at >= 0 && at < WORDS;
            int w = isThere ? program[at] : 0;
            pc = at;
            op = isThere ? w >>> 26 : NO_WORD;
            d = (w >>> 22) & 15;
            a = (w >>> 18) & 15;
            b = (w >>> 14) & 15;
            i = (w << 18) >> 18;
        }

        boolean isOfTwo() {
            return op <= LAST_OF_TWO;
        }

        boolean isWithNumber() {
            return op >= FIRST_WITH_NUMBER && op <= LAST_WITH_NUMBER;
        }

        boolean isAccess() {
            return op == LOAD || op == STORE;
        }

        boolean isBranch() {
            return op >= FIRST_BRANCH && op <= LAST_BRANCH;
        }

        boolean isJump() {
            return op == JUMP || op == JUMP_BY_REGISTER;
        }

        boolean isCall() {
            return isJump() && d == 15;
        }

        boolean isReturn() {
            return op == JUMP_BY_REGISTER && a == 15 && d == 0;
        }

        boolean readsA() {
            return isOfTwo() || isWithNumber() || isAccess() || isBranch()
                || op == JUMP_BY_REGISTER || op == PUT_OUT;
        }

        /** Whether B is read in X: a store reads it later. */
        boolean readsB() {
            return isOfTwo() || isBranch();
        }

        boolean getsD() {
            return isOfTwo() || isWithNumber() || op == HIGH_NUMBER || op == LOAD || isJump();
        }

        int cyclesInX() {
            switch (op) {
                case 10:
                    return 3;
                case 11:
                case 12:
                    return 12;
                default:
                    return 1;
            }
        }
    }

    /** What an instruction does and where it goes on, as of one after the other. */
    private static final class Deed {
        private static final int SIGN = 1 << 31;

        int next;
        /** What register D gets, what is stored or what is put out. */
        int value;
        int address;
        boolean taken;
        int ending;
        int trap;

        void work(Word word, int[] registers, int[] store) {
            int a = registers[word.a];
            int b = registers[word.b];
            next = word.pc + 1;
            value = 0;
            address = 0;
            taken = false;
            ending = GOES_ON;
            trap = 0;
            if (word.isOfTwo()) {
                value = compute(word.op, a, b);
            } else if (word.isWithNumber()) {
                value = compute(word.op - FIRST_WITH_NUMBER, a, word.i);
            } else if (word.isAccess()) {
                reach(word, a, b, store);
            } else if (word.isBranch()) {
                branch(word, a, b);
            } else {
                workOther(word, a);
            }
        }

        boolean isLoad(Word word) {
            return word.op == LOAD && ending == GOES_ON;
        }

        boolean isStore(Word word) {
            return word.op == STORE && ending == GOES_ON;
        }

        private void reach(Word word, int a, int b, int[] store) {
            int at = a + word.i;
            if (at < 0 || at >= WORDS) {
                stop(TRAPPED, 2);
                return;
            }
            address = at;
            value = word.op == LOAD ? store[at] : b;
        }

        private void branch(Word word, int a, int b) {
            taken = holds(word.op, a, b);
            if (taken) {
                next = word.pc + word.i;
            }
        }

        private void workOther(Word word, int a) {
            switch (word.op) {
                case HIGH_NUMBER:
                    value = word.i << 18;
                    break;
                case JUMP:
                    value = word.pc + 1;
                    next = word.pc + word.i;
                    break;
                case JUMP_BY_REGISTER:
                    value = word.pc + 1;
                    next = a + word.i;
                    break;
                case END:
                    stop(ENDED, 0);
                    break;
                case PUT_OUT:
                    value = a;
                    break;
                case NO_WORD:
                    stop(TRAPPED, 3);
                    break;
                default:
                    stop(TRAPPED, 1);
                    break;
            }
        }

        private void stop(int how, int which) {
            ending = how;
            trap = which;
        }

        private static boolean holds(int op, int a, int b) {
            switch (op) {
                case 40:
                    return a == b;
                case 41:
                    return a != b;
                case 42:
                    return a < b;
                default:
                    return a >= b;
            }
        }

        private static int compute(int op, int a, int b) {
            switch (op) {
                case 0:
                    return a + b;
                case 1:
                    return a - b;
                case 2:
                    return a & b;
                case 3:
                    return a | b;
                case 4:
                    return a ^ b;
                case 5:
                    return a << (b & 31);
                case 6:
                    return a >>> (b & 31);
                case 7:
                    return a >> (b & 31);
                case 8:
                    return a < b ? 1 : 0;
                case 9:
                    return (a ^ SIGN) < (b ^ SIGN) ? 1 : 0;
                case 10:
                    return a * b;
                case 11:
                    return b == 0 ? -1 : a / b;
                default:
                    return b == 0 ? a : a % b;
            }
        }
    }

    /**
     * The sums of the cycles. f is that of the instruction to come, the others are those of the
     * one that came last; each is overwritten when the sums of the next no longer need it.
     */
    private static final class Stages {
        private static final int MORE_FOR_A_MISS = 8;

        int f;
        int xe;
        int me;
        int w;
        private int d;
        private int x;
        private int m;
        private final int[] ready = new int[REGISTERS];

        /** Zero is below every cycle: it takes no part in a greatest one. */
        void clear() {
            f = 1;
            d = 0;
            x = 0;
            xe = 0;
            m = 0;
            me = 0;
            w = 0;
            Arrays.fill(ready, 0);
        }

        void pass(Word word, boolean missed) {
            d = Math.max(f + 1, x);
            x = Math.max(d + 1, m);
            if (word.readsA()) {
                x = Math.max(x, ready[word.a] + 1);
            }
            if (word.readsB()) {
                x = Math.max(x, ready[word.b] + 1);
            }
            xe = x + word.cyclesInX() - 1;
            m = Math.max(xe + 1, w);
            if (word.op == STORE) {
                m = Math.max(m, ready[word.b] + 1);
            }
            me = missed ? m + MORE_FOR_A_MISS : m;
            w = me + 1;
            // That of register 0 stays 0, which makes no one wait.
            if (word.getsD() && word.d != 0) {
                ready[word.d] = word.op == LOAD ? me : xe;
            }
        }

        void goOn(boolean guessedRight) {
            f = guessedRight ? d : xe + 1;
        }
    }

    /**
     * Guesses where it goes on. What an instruction tells is kept until a guess comes behind its
     * XE; the third one before has always told, so that four places are enough.
     */
    private static final class Guesser {
        private static final int COUNTS = 64;
        private static final int LAST_COUNT = COUNTS - 1;
        private static final int HIGHEST_COUNT = 3;
        private static final int PLACES = 4;
        private static final int LAST_PLACE = PLACES - 1;
        private static final int UP = 0;
        private static final int DOWN = 1;
        private static final int CALL = 2;
        private static final int RETURN = 3;

        private final int[] counts = new int[COUNTS];
        private final Calls calls = new Calls();
        private final int[] toldWhat = new int[PLACES];
        private final int[] toldPc = new int[PLACES];
        private final int[] toldXe = new int[PLACES];
        private int heeded;
        private int told;

        void clear() {
            Arrays.fill(counts, 1);
            calls.size = 0;
            heeded = 0;
            told = 0;
        }

        void heedThoseBelow(int f) {
            for (; heeded < told && toldXe[heeded & LAST_PLACE] < f; heeded++) {
                heed(toldWhat[heeded & LAST_PLACE], toldPc[heeded & LAST_PLACE]);
            }
        }

        int guess(Word word) {
            if (word.isBranch()) {
                return counts[word.pc & LAST_COUNT] >= 2 ? word.pc + word.i : word.pc + 1;
            }
            if (word.op == JUMP) {
                return word.pc + word.i;
            }
            if (word.isReturn() && calls.size > 0) {
                return calls.top();
            }
            return word.pc + 1;
        }

        void hear(Word word, boolean taken, int xe) {
            if (word.isBranch()) {
                keep(taken ? UP : DOWN, word.pc, xe);
            } else if (word.isCall()) {
                keep(CALL, word.pc, xe);
            } else if (word.isReturn()) {
                keep(RETURN, word.pc, xe);
            }
        }

        private void keep(int what, int pc, int xe) {
            int place = told & LAST_PLACE;
            toldWhat[place] = what;
            toldPc[place] = pc;
            toldXe[place] = xe;
            told++;
        }

        private void heed(int what, int pc) {
            int at = pc & LAST_COUNT;
            switch (what) {
                case UP:
                    counts[at] = Math.min(counts[at] + 1, HIGHEST_COUNT);
                    break;
                case DOWN:
                    counts[at] = Math.max(counts[at] - 1, 0);
                    break;
                case CALL:
                    calls.push(pc + 1);
                    break;
                default:
                    calls.pop();
                    break;
            }
        }
    }

    /** The CALLS: a ring, in which the newest takes the oldest one's place when it is full. */
    private static final class Calls {
        private static final int MOST = 8;

        int size;
        private int newest;
        private final int[] ring = new int[MOST];

        int top() {
            return ring[newest];
        }

        void push(int pc) {
            newest = (newest + 1) & (MOST - 1);
            ring[newest] = pc;
            if (size < MOST) {
                size++;
            }
        }

        void pop() {
            if (size > 0) {
                newest = (newest - 1) & (MOST - 1);
                size--;
            }
        }
    }

    /** The LINEs that are HELD, each at its place. */
    private static final class Lines {
        private static final int PLACES = 16;
        private static final int NONE = -1;

        private final int[] held = new int[PLACES];

        void clear() {
            Arrays.fill(held, NONE);
        }

        boolean miss(int address) {
            int line = address >>> 2;
            int place = line & (PLACES - 1);
            boolean isMiss = held[place] != line;
            held[place] = line;
            return isMiss;
        }
    }

    /** What was put out: the first ones are kept, all are counted. */
    private static final class Outlet {
        private static final int MOST_KEPT = 1000;

        final int[] first = new int[MOST_KEPT];
        int total;

        int kept() {
            return Math.min(total, MOST_KEPT);
        }

        void put(int value) {
            if (total < MOST_KEPT) {
                first[total] = value;
            }
            total++;
        }
    }

    /** What count() tells of the instructions that have had their W. */
    private static final class Tally {
        int ending;
        int trap;
        int latestPc;
        int done;
        int wrongGuesses;
        int misses;
        int branchesTaken;

        void clear() {
            ending = GOES_ON;
            trap = 0;
            latestPc = -1;
            done = 0;
            wrongGuesses = 0;
            misses = 0;
            branchesTaken = 0;
        }

        void add(boolean guessedRight, boolean missed, boolean taken) {
            done++;
            if (!guessedRight) {
                wrongGuesses++;
            }
            if (missed) {
                misses++;
            }
            if (taken) {
                branchesTaken++;
            }
        }
    }
}
