import java.util.Random;

/** Programs by chance (always the same ones), each run in pieces and compared with the Model. */
public final class RandomProgramsTest {
    private static final int PROGRAMS = 3000;
    private static final int MOST_INSTRUCTIONS = 400;
    private static final int PIECES = 9;

    private final Random random;
    private final int[] code = new int[1024];
    private final int[] data = new int[1024];
    private final int length;
    private final boolean wild;

    private RandomProgramsTest(int seed) {
        random = new Random(seed);
        length = 5 + random.nextInt(60);
        wild = seed % 10 == 0;
    }

    private int register() {
        int kind = random.nextInt(10);
        return kind == 0 ? 0 : kind == 1 ? 15 : wild ? random.nextInt(16) : 1 + random.nextInt(5);
    }

    private int number() {
        int kind = random.nextInt(6);
        return kind == 0 ? random.nextInt(1 << 14) - (1 << 13) : random.nextInt(70) - 10;
    }

    private int near(int at) {
        int to = random.nextInt(40) == 0 ? random.nextInt(1400) - 200 : random.nextInt(length);
        return random.nextInt(12) == 0 ? 1 : to - at;
    }

    private int next(int at) {
        int kind = random.nextInt(100);
        if (kind < 20) {
            return Words.two(random.nextInt(13), register(), register(), register());
        } else if (kind < 42) {
            return Words.with(random.nextInt(10), register(), register(), number());
        } else if (kind < 45) {
            return Words.word(26, register(), register(), register(), number());
        } else if (kind < 57) {
            return Words.load(register(), random.nextInt(6) == 0 ? register() : 0, random.nextInt(160));
        } else if (kind < 65) {
            return Words.store(random.nextInt(6) == 0 ? register() : 0, register(), random.nextInt(160));
        } else if (kind < 80) {
            return Words.word(40 + random.nextInt(4), register(), register(), register(), near(at));
        } else if (kind < 88) {
            return Words.word(44, random.nextInt(3) == 0 ? register() : 15, register(), register(), near(at));
        } else if (kind < 95) {
            int d = random.nextInt(4) == 0 ? register() : 0;
            return Words.word(45, d, random.nextInt(8) == 0 ? register() : 15, 0, random.nextInt(5) == 0 ? 1 : 0);
        } else if (kind < 99) {
            return Words.word(49, register(), register(), register(), number());
        }
        return random.nextBoolean() ? random.nextInt() : Words.END;
    }

    private void fill() {
        for (int k = 0; k < length; k++) {
            code[k] = next(k);
        }
        for (int k = 0; k < 8; k++) {
            code[length + random.nextInt(1024 - length)] = Words.END;
        }
        for (int k = 0; k < 60; k++) {
            data[random.nextInt(160)] = random.nextInt(3) == 0 ? random.nextInt() : random.nextInt(100);
        }
    }

    /** Every now and then it has done something already when it begins. */
    private StageHost begun() {
        StageHost host = new StageHost();
        for (int k = 0; k < 1024; k++) {
            if (code[k] != 0) {
                host.code(k, code[k]);
            }
            if (data[k] != 0) {
                host.data(k, data[k]);
            }
        }
        host.begin();
        if (random.nextInt(3) == 0) {
            host.run(random.nextInt(300));
            host.begin();
        }
        return host;
    }

    private int[] pieces(long lastCycle) {
        int[] pieces = new int[PIECES];
        long left = lastCycle;
        for (int k = 0; k < PIECES; k++) {
            int most = k < 5 ? random.nextInt(6) : k < PIECES - 1 ? random.nextInt(300) : 50000;
            // The last piece goes as far as the model knows, or well behind any end.
            pieces[k] = (int) Math.min(most, left);
            left -= pieces[k];
        }
        return pieces;
    }

    /** A new object for each number of pieces, so that none is used for more than 512 calls. */
    private int compare(int seed) {
        fill();
        Model model = new Model(code, data, MOST_INSTRUCTIONS);
        int[] pieces = pieces(model.lastCycle());
        String run = "program " + seed;
        int done = 0;
        for (int count = 0; count <= PIECES; count++) {
            StageHost host = begun();
            long cycles = 0;
            for (int k = 0; k < count; k++) {
                cycles += pieces[k];
                int answer = host.run(pieces[k]);
                Checks.due(run + ", run(" + pieces[k] + ")", answer, model.endingBehind(cycles));
            }
            model.compare(run, host, cycles);
            done = host.count(2);
        }
        return done;
    }

    public static void main(String[] args) {
        long instructions = 0;
        for (int seed = 0; seed < PROGRAMS; seed++) {
            instructions += new RandomProgramsTest(seed).compare(seed);
        }
        System.out.println(instructions + " instructions done to the last piece and compared");
        Checks.end();
    }
}
