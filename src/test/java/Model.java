import java.util.ArrayDeque;
import java.util.ArrayList;
import java.util.HashMap;
import java.util.List;
import java.util.Map;
import java.util.Set;
import java.util.TreeSet;

/**
 * The document's sums, written out as slowly and plainly as it tells them: every instruction that
 * is done is kept with all its cycles, and every question looks at all of them anew. It shares no
 * thought with the class under test but the document.
 */
final class Model {
    // A comparison makes some 330 calls at most: an object is used for no more than 512.
    private static final int LOW_WORDS = 160;
    private static final int MOST_FAR_WORDS = 40;
    private static final int MOST_OUTPUTS = 100;

    /** One instruction that is done. */
    static final class Done {
        int pc;
        int op;
        int d;
        int a;
        int b;
        int i;
        long fetch;
        long decode;
        long execute;
        long executeEnd;
        long memory;
        long memoryEnd;
        long write;
        int guess;
        int next;
        boolean related;
        boolean miss;
        int value;
        int word = -1;
        int ending;
        int trap;

        boolean gets(int register) {
            boolean any = op <= 12 || op >= 16 && op <= 26 || op == 32 || op == 44 || op == 45;
            return any && d == register;
        }

        long ready() {
            return op == 32 ? memoryEnd : executeEnd;
        }
    }

    private final int[] code;
    private final int[] firstData;
    final List<Done> all = new ArrayList<>();

    Model(int[] code, int[] data, int mostInstructions) {
        this.code = code.clone();
        this.firstData = data.clone();
        int[] registers = new int[16];
        int[] words = data.clone();
        int pc = 0;
        while (all.size() < mostInstructions) {
            Done now = cut(pc);
            now.fetch = fetchOf();
            now.guess = guessOf(now);
            work(now, registers, words);
            now.miss = now.op == 32 && now.ending == 0 && isMiss(now.word);
            time(now);
            all.add(now);
            if (now.ending != 0) {
                break;
            }
            pc = now.next;
        }
    }

    /** Up to where this model knows what is due. */
    long lastCycle() {
        return all.get(all.size() - 1).ending != 0 ? Long.MAX_VALUE : all.get(all.size() - 1).memory - 1;
    }

    /** What run() answers that ends behind so many cycles. */
    int endingBehind(long cycles) {
        return last().write <= cycles ? last().ending : 0;
    }

    private Done cut(int pc) {
        Done now = new Done();
        now.pc = pc;
        if (pc < 0 || pc > 1023) {
            now.op = 1000;
            return now;
        }
        long w = code[pc] & 0xffffffffL;
        now.op = (int) (w / (1L << 26));
        now.d = (int) (w / (1L << 22) % 16);
        now.a = (int) (w / (1L << 18) % 16);
        now.b = (int) (w / (1L << 14) % 16);
        int low = (int) (w % (1L << 14));
        now.i = low >= 1 << 13 ? low - (1 << 14) : low;
        return now;
    }

    private Done last() {
        return all.isEmpty() ? null : all.get(all.size() - 1);
    }

    private long fetchOf() {
        Done before = last();
        if (before == null) {
            return 1;
        }
        return before.guess == before.next ? before.decode : before.executeEnd + 1;
    }

    private int guessOf(Done now) {
        Map<Integer, Integer> counts = new HashMap<>();
        ArrayDeque<Integer> calls = new ArrayDeque<>();
        for (Done one : all) {
            if (one.executeEnd >= now.fetch) {
                continue;
            }
            int low = Math.floorMod(one.pc, 64);
            if (one.op >= 40 && one.op <= 43) {
                int count = counts.getOrDefault(low, 1);
                counts.put(low, one.related ? Math.min(3, count + 1) : Math.max(0, count - 1));
            }
            if ((one.op == 44 || one.op == 45) && one.d == 15) {
                calls.addLast(one.pc + 1);
                if (calls.size() > 8) {
                    calls.removeFirst();
                }
            }
            if (one.op == 45 && one.a == 15 && one.d == 0) {
                calls.pollLast();
            }
        }
        if (now.op >= 40 && now.op <= 43) {
            return counts.getOrDefault(Math.floorMod(now.pc, 64), 1) >= 2 ? now.pc + now.i : now.pc + 1;
        }
        if (now.op == 44) {
            return now.pc + now.i;
        }
        if (now.op == 45 && now.a == 15 && now.d == 0 && !calls.isEmpty()) {
            return calls.peekLast();
        }
        return now.pc + 1;
    }

    private boolean isMiss(int word) {
        int held = -1;
        for (Done one : all) {
            if (one.miss && one.word / 4 % 16 == word / 4 % 16) {
                held = one.word / 4;
            }
        }
        return held != word / 4;
    }

    private static int wrap(long x) {
        return (int) x;
    }

    private static int two(int op, long a, long b) {
        int by = (int) Math.floorMod(b, 32L);
        long power = 1L << by;
        long unsignedA = a & 0xffffffffL;
        long unsignedB = b & 0xffffffffL;
        switch (op) {
            case 0: return wrap(a + b);
            case 1: return wrap(a - b);
            case 2: return wrap(a & b);
            case 3: return wrap(a | b);
            case 4: return wrap(a ^ b);
            case 5: return wrap(unsignedA * power);
            case 6: return wrap(unsignedA / power);
            case 7: return wrap(Math.floorDiv(a, power));
            case 8: return a < b ? 1 : 0;
            case 9: return unsignedA < unsignedB ? 1 : 0;
            case 10: return wrap(a * b);
            case 11: return b == 0 ? -1 : wrap(a / b);
            case 12: return b == 0 ? wrap(a) : wrap(a % b);
            default: throw new AssertionError();
        }
    }

    private void work(Done now, int[] registers, int[] words) {
        int a = registers[now.a];
        int b = registers[now.b];
        int op = now.op;
        now.next = now.pc + 1;
        if (op <= 12) {
            now.value = two(op, a, b);
        } else if (op >= 16 && op <= 25) {
            now.value = two(op - 16, a, now.i);
        } else if (op == 26) {
            now.value = wrap((long) now.i * (1 << 18));
        } else if (op == 32 || op == 33) {
            int word = wrap((long) a + now.i);
            if (word < 0 || word > 1023) {
                now.ending = 2;
                now.trap = 2;
            } else {
                now.word = word;
                now.value = op == 32 ? words[word] : b;
                words[word] = now.value;
            }
        } else if (op >= 40 && op <= 43) {
            boolean below = op >= 42;
            boolean holds = below ? a < b : a == b;
            now.related = op % 2 == 0 ? holds : !holds;
            now.next = now.related ? wrap((long) now.pc + now.i) : now.next;
        } else if (op == 44 || op == 45) {
            now.value = now.pc + 1;
            now.next = wrap((op == 44 ? (long) now.pc : (long) a) + now.i);
        } else if (op == 49) {
            now.value = a;
        } else {
            now.ending = op == 48 ? 1 : 2;
            now.trap = op == 48 ? 0 : op == 1000 ? 3 : 1;
        }
        if (now.ending == 0 && now.d != 0 && now.gets(now.d)) {
            registers[now.d] = now.value;
        }
    }

    private long behindReady(int register) {
        long behind = 0;
        if (register != 0) {
            for (Done one : all) {
                if (one.gets(register)) {
                    behind = one.ready() + 1;
                }
            }
        }
        return behind;
    }

    private void time(Done now) {
        Done before = last() == null ? new Done() : last();
        int op = now.op;
        now.decode = Math.max(now.fetch + 1, before.execute);
        now.execute = Math.max(now.decode + 1, before.memory);
        boolean readsBoth = op <= 12 || op >= 40 && op <= 43;
        boolean readsA = readsBoth || op >= 16 && op <= 25 || op == 32 || op == 33 || op == 45 || op == 49;
        if (readsA) {
            now.execute = Math.max(now.execute, behindReady(now.a));
        }
        if (readsBoth) {
            now.execute = Math.max(now.execute, behindReady(now.b));
        }
        int lasts = op == 10 ? 3 : op == 11 || op == 12 ? 12 : 1;
        now.executeEnd = now.execute + lasts - 1;
        now.memory = Math.max(now.executeEnd + 1, before.write);
        if (op == 33) {
            now.memory = Math.max(now.memory, behindReady(now.b));
        }
        now.memoryEnd = now.memory + (now.miss ? 8 : 0);
        now.write = now.memoryEnd + 1;
    }

    /** Compares the answers of the host with what is due behind so many cycles. */
    void compare(String run, StageHost host, long asked) {
        long cycles = asked;
        Done end = last();
        if (end.ending != 0 && end.write <= cycles) {
            cycles = end.write;
        }
        int[] registers = new int[16];
        int[] words = firstData.clone();
        List<Integer> out = new ArrayList<>();
        int[] counts = new int[9];
        counts[1] = (int) cycles;
        counts[7] = -1;
        for (Done one : all) {
            if (one.op == 33 && one.ending == 0 && one.memoryEnd <= cycles) {
                words[one.word] = one.value;
            }
            if (one.write > cycles) {
                continue;
            }
            counts[7] = one.pc;
            if (one.ending != 0) {
                counts[0] = one.ending;
                counts[6] = one.trap;
                continue;
            }
            counts[2]++;
            counts[3] += one.guess == one.next ? 0 : 1;
            counts[4] += one.miss ? 1 : 0;
            counts[5] += one.related ? 1 : 0;
            if (one.d != 0 && one.gets(one.d)) {
                registers[one.d] = one.value;
            }
            if (one.op == 49) {
                out.add(one.value);
            }
        }
        counts[8] = out.size();
        String at = run + ", behind cycle " + cycles + ": ";
        for (int k = 0; k < 9; k++) {
            Checks.due(at + "count(" + k + ")", host.count(k), counts[k]);
        }
        for (int k = 0; k < 16; k++) {
            Checks.due(at + "register(" + k + ")", host.register(k), registers[k]);
        }
        for (int k : watched()) {
            Checks.due(at + "memory(" + k + ")", host.memory(k), words[k]);
        }
        for (int k = 0; k < Math.min(1000, out.size()); k++) {
            if (k < MOST_OUTPUTS / 2 || k >= out.size() - MOST_OUTPUTS / 2) {
                Checks.due(at + "output(" + k + ")", host.output(k), out.get(k));
            }
        }
        int none = Math.min(1000, out.size());
        Checks.dueThrow(at + "output(" + none + ")", IndexOutOfBoundsException.class, () -> host.output(none));
    }

    /** The words of DATA to look at: the low ones, and some of the far ones that are ever stored. */
    private Set<Integer> watched() {
        Set<Integer> watched = new TreeSet<>();
        for (int k = 0; k < LOW_WORDS; k++) {
            watched.add(k);
        }
        for (Done one : all) {
            if (one.op == 33 && one.ending == 0 && watched.size() < LOW_WORDS + MOST_FAR_WORDS) {
                watched.add(one.word);
            }
        }
        return watched;
    }
}
