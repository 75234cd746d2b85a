import java.util.Random;

/** Programs by chance (always the same ones), each run in pieces and compared with the Model. */
public final class RandomProgramsTest {
    private static final int PROGRAMS = 3000;
    private static final int MOST_INSTRUCTIONS = 400;

    private final Random random;
    private final int[] code = new int[1024];
    private final int[] data = new int[1024];
    private final int length;
    private final boolean wild;

    private RandomProgramsTest(int seed) {
        random = new Random(seed);
        length = 5 + random.nextInt(60);
        wild = seed % 10 == 0;
    }

    private int register() {
        int kind = random.nextInt(10);
        return kind == 0 ? 0 : kind == 1 ? 15 : wild ? random.nextInt(16) : 1 + random.nextInt(5);
    }

    private int number() {
        int kind = random.nextInt(6);
        return kind == 0 ? random.nextInt(1 << 14) - (1 << 13) : random.nextInt(70) - 10;
    }

    private int near(int at) {
        int to = random.nextInt(40) == 0 ? random.nextInt(1400) - 200 : random.nextInt(length);
        return random.nextInt(12) == 0 ? 1 : to - at;
    }

    private int next(int at) {
        int kind = random.nextInt(100);
        if (kind < 20) {
            return Words.two(random.nextInt(13), register(), register(), register());
        } else if (kind < 42) {
            return Words.with(random.nextInt(10), register(), register(), number());
        } else if (kind < 45) {
            return Words.word(26, register(), register(), register(), number());
        } else if (kind < 57) {
            return Words.load(register(), random.nextInt(6) == 0 ? register() : 0, random.nextInt(160));
        } else if (kind < 65) {
            return Words.store(random.nextInt(6) == 0 ? register() : 0, register(), random.nextInt(160));
        } else if (kind < 80) {
            return Words.word(40 + random.nextInt(4), register(), register(), register(), near(at));
        } else if (kind < 88) {
            return Words.word(44, random.nextInt(3) == 0 ? register() : 15, register(), register(), near(at));
        } else if (kind < 95) {
            int d = random.nextInt(4) == 0 ? register() : 0;
            return Words.word(45, d, random.nextInt(8) == 0 ? register() : 15, 0, random.nextInt(5) == 0 ? 1 : 0);
        } else if (kind < 99) {
            return Words.word(49, register(), register(), register(), number());
        }
        return random.nextBoolean() ? random.nextInt() : Words.END;
    }

    private void fill() {
        for (int k = 0; k < length; k++) {
            code[k] = next(k);
        }
        for (int k = length; k < 1024; k++) {
            code[k] = random.nextInt(50) == 0 ? Words.END : 0;
        }
        for (int k = 0; k < 1024; k++) {
            data[k] = random.nextInt(3) == 0 ? random.nextInt() : random.nextInt(100);
        }
    }

    private void give(StageHost host) {
        for (int k = 0; k < 1024; k++) {
            host.code(k, code[k]);
            host.data(k, data[k]);
        }
        host.begin();
    }

    private int compare(int seed, StageHost host) {
        fill();
        Model model = new Model(code, data, MOST_INSTRUCTIONS);
        give(host);
        String run = "program " + seed;
        long cycles = 0;
        model.compare(run, host, cycles);
        for (int piece = 0; piece < 9; piece++) {
            long left = model.lastCycle() - cycles;
            // The last piece goes as far as the model knows, or well behind any end.
            int n = (int) Math.min(piece < 5 ? random.nextInt(6) : piece < 8 ? random.nextInt(300) : 50000, left);
            cycles += n;
            int answer = host.run(n);
            Checks.due(run + ", run(" + n + ")", answer, host.count(0));
            model.compare(run, host, cycles);
        }
        return host.count(2);
    }

    public static void main(String[] args) {
        long instructions = 0;
        StageHost host = null;
        for (int seed = 0; seed < PROGRAMS; seed++) {
            if (seed % 5 == 0) {
                host = new StageHost();
            }
            instructions += new RandomProgramsTest(seed).compare(seed, host);
        }
        System.out.println(instructions + " instructions done by the host and compared");
        Checks.end();
    }
}
