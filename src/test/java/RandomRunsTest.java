import java.util.Arrays;
import java.util.Random;

/** Runs of 512 random calls from fixed seeds: the program answers as Model does. */
public final class RandomRunsTest {
    private static final int RUNS = 9000;
    private static final int[] EDGES = {-1, 6, 7, 8, 31, 32, 33, 99, 100, 255, 256, Integer.MAX_VALUE, Integer.MIN_VALUE};
    /** How often each call of Kernel.CALLS comes, in three kinds of runs: of all, of files, of processes. */
    private static final int[][] WEIGHTS = {
        {4, 2, 2, 12, 5, 20, 20, 8, 4, 4, 8, 3, 5, 4, 4, 1, 4, 4, 4, 4},
        {3, 1, 1, 12, 0, 40, 40, 25, 4, 2, 5, 2, 1, 1, 1, 0, 0, 0, 0, 0},
        {2, 1, 1, 12, 15, 15, 15, 1, 1, 8, 6, 1, 12, 4, 4, 0, 0, 0, 0, 0},
    };
    /** The same for the calls that only look: host, log, cached and count. */
    private static final int[] VIEWS = {0, 0, 0, 0, 0, 0, 0, 0, 0, 0, 0, 0, 0, 0, 0, 0, 2, 2, 3, 3};

    public static void main(String[] args) {
        for (int seed = 0; seed < RUNS; seed++) {
            oneRun(seed);
        }
        Runs.finish();
    }

    /** After each call one view, so that a wrong state is seen near to the call that left it. */
    private static void oneRun(int seed) {
        Random random = new Random(seed);
        Kernel program = Kernel.ofProgram();
        Kernel model = new Model();
        for (int i = 0; i < Kernel.PROMISED; i++) {
            int call = chosen(random, i % 2 == 0 ? weights(seed) : VIEWS);
            int[] numbers = numbersFor(random, call);
            int want = model.answer(Kernel.CALLS[call], numbers);
            int got = program.answer(Kernel.CALLS[call], numbers);
            Runs.due("seed " + seed + ", call " + i + ": " + Kernel.CALLS[call] + Arrays.toString(numbers), got, want);
            if (got != want) {
                return;
            }
        }
    }

    static int[] weights(int seed) {
        return WEIGHTS[seed % WEIGHTS.length];
    }

    static int chosen(Random random, int[] weights) {
        int left = random.nextInt(Arrays.stream(weights).sum());
        int call = 0;
        while (left >= weights[call]) {
            left -= weights[call];
            call++;
        }
        return call;
    }

    static int[] numbersFor(Random random, int call) {
        int[] numbers = new int[Kernel.NUMBERS[call]];
        for (int i = 0; i < numbers.length; i++) {
            numbers[i] = random.nextInt(60) == 0
                    ? EDGES[random.nextInt(EDGES.length)]
                    : ordinary(random, Kernel.CALLS[call], i);
        }
        return numbers;
    }

    private static int ordinary(Random random, String call, int i) {
        return switch (call + i) {
            case "put0", "policy0", "host0", "open1", "unlink1" -> random.nextInt(random.nextBoolean() ? 3 : 8);
            case "put1", "seek2", "host1" -> random.nextInt(33);
            case "policy1" -> Math.min(2, random.nextInt(5));
            case "failing0" -> random.nextInt(4);
            case "open2" -> random.nextInt(3) == 0 ? random.nextInt(32) : 11 + 4 * random.nextInt(2);
            case "put2", "write2" -> random.nextInt(256);
            case "exit1" -> random.nextInt(100);
            case "log0" -> random.nextInt(18);
            case "cached0", "count0" -> random.nextInt(6);
            default -> i == 0 ? 1 + Math.min(random.nextInt(6), random.nextInt(6)) : random.nextInt(random.nextBoolean() ? 2 : 6);
        };
    }
}
