import java.util.Arrays;
import java.util.LinkedHashMap;
import java.util.Map;
import java.util.Random;

/**
 * 'Terms': a call that answers below 0 changes nothing, but for BROKEN as said. In states at the
 * document's limits every call is made with every number around the edges of its range.
 */
public final class RefusedCallsTest {
    private static final int[] PROCESSES = {-1, 0, 1, 2, 3, 4, 6, 7, Integer.MAX_VALUE, Integer.MIN_VALUE};
    private static final int[] DESCRIPTORS = {-1, 0, 1, 2, 3, 5, 6, Integer.MAX_VALUE, Integer.MIN_VALUE};
    private static final int[] FILES = {-1, 0, 1, 2, 7, 8, Integer.MAX_VALUE, Integer.MIN_VALUE};
    private static final int[] LENGTHS = {-1, 0, 1, 4, 5, 8, 16, 17, 31, 32, 33, Integer.MAX_VALUE, Integer.MIN_VALUE};
    private static final int[] MODES = {-1, 0, 1, 2, 3, 4, 7, 8, 9, 16, 24, 31, 32, 33, Integer.MAX_VALUE, Integer.MIN_VALUE};
    private static final int[] VALUES = {-1, 0, 255, 256, Integer.MAX_VALUE, Integer.MIN_VALUE};
    private static final int[] CODES = {-1, 0, 99, 100, Integer.MAX_VALUE, Integer.MIN_VALUE};
    private static final int[] POLICIES = {-1, 0, 1, 2, 3, Integer.MAX_VALUE, Integer.MIN_VALUE};
    private static final int[] TO_FAIL = {-1, 0, 1, 9, 10, Integer.MAX_VALUE, Integer.MIN_VALUE};
    private static final int[] VIEWS = {-1, 0, 1, 4, 5, 15, 16, Integer.MAX_VALUE, Integer.MIN_VALUE};
    /** How many parts probe has, and how many calls leave room for its longest one. */
    private static final int PARTS = 4;
    private static final int CALLS_BEFORE_PROBE = 160;

    public static void main(String[] args) {
        for (Map.Entry<String, String> state : states().entrySet()) {
            everyCallIn(state.getKey(), state.getValue());
        }
        for (int seed = 0; seed < 1200; seed++) {
            leftOut(seed);
        }
        Runs.finish();
    }

    private static Map<String, String> states() {
        Map<String, String> states = new LinkedHashMap<>();
        states.put("a new object", "");
        states.put("a full cache", States.FIVE_BLOCKS);
        states.put("a full cache, one operation to fail", States.FIVE_BLOCKS + "failing 1 = 0; seek 1 1 8 = 8");
        states.put("a clean cache, one operation to fail", States.FIVE_CLEAN_BLOCKS + "failing 1 = 0; seek 1 1 8 = 8");
        states.put("fifteen openings", States.FOURTEEN_OPENINGS + "open 3 0 1 = 2; fork 3 = 5; exit 5 7 = 0");
        states.put("sixteen openings", States.FOURTEEN_OPENINGS + "pipe 4 = 8; write 4 1 3 = 1");
        states.put("six descriptors", States.SIX_DESCRIPTORS + "policy 0 1 = 0; put 1 4 0 = 0; policy 1 0 = 0; put 2 8 1 = 0");
        states.put("six processes", "pipe 1 = 8\n" + States.SIX_PROCESSES + "exit 3 9 = 0; close 2 0 = 0");
        states.put("five processes", "fork 1 = 2; fork 2 = 3; fork 2 = 4; fork 4 = 5; exit 4 9 = 0; exit 3 1 = 0");
        states.put("a full pipe", States.FULL_PIPE + "fork 1 = 2; close 2 0 = 0; put 0 32 1 = 0; open 1 0 7 = 2; read 1 2 = 1");
        states.put("a pipe without a reader", States.FULL_PIPE + "close 1 0 = 0; pipe 1 = 16; close 1 2 = 0");
        states.put("a POSITION above LENGTH", "put 0 32 1 = 0; open 1 0 3 = 0; seek 1 0 20 = 20; open 1 0 17 = 1; open 1 0 1 = 2");
        return states;
    }

    private static void everyCallIn(String name, String state) {
        String[] untouched = new String[PARTS];
        for (int part = 0; part < PARTS; part++) {
            untouched[part] = probe(part, Runs.replay(state, Kernel.ofProgram()));
        }
        for (int call = 0; call < Kernel.CALLS.length; call++) {
            int[][] ranges = new int[Kernel.NUMBERS[call]][];
            for (int i = 0; i < ranges.length; i++) {
                ranges[i] = range(Kernel.CALLS[call], i);
            }
            int[] at = new int[ranges.length];
            do {
                int[] numbers = new int[ranges.length];
                for (int i = 0; i < numbers.length; i++) {
                    numbers[i] = ranges[i][at[i]];
                }
                oneCall(name, state, Kernel.CALLS[call], numbers, untouched);
            } while (next(at, ranges));
        }
    }

    private static void oneCall(String name, String state, String call, int[] numbers, String[] untouched) {
        String what = "in the state '" + name + "': " + call + " " + Arrays.toString(numbers);
        for (int part = 0; part < PARTS; part++) {
            Kernel program = Runs.replay(state, Kernel.ofProgram());
            Kernel model = Runs.replay(state, new Model());
            long got = Runs.answerOf(program, call, numbers);
            Runs.due(what, got, Runs.answerOf(model, call, numbers));
            String after = probe(part, program);
            Runs.isTrue(what + " leaves the state that the model has", after.equals(probe(part, model)));
            if (got < 0 && got != SandKernel.BROKEN) {
                Runs.isTrue("Terms: " + what + " answered below 0 and changes nothing", after.equals(untouched[part]));
            }
        }
    }

    /** Counts at[] up through all places of the ranges; false behind the last. */
    private static boolean next(int[] at, int[][] ranges) {
        for (int i = 0; i < at.length; i++) {
            at[i]++;
            if (at[i] < ranges[i].length) {
                return true;
            }
            at[i] = 0;
        }
        return false;
    }

    private static int[] range(String call, int i) {
        return switch (call + i) {
            case "put0", "policy0", "host0", "open1", "unlink1" -> FILES;
            case "put1", "seek2", "host1" -> LENGTHS;
            case "policy1" -> POLICIES;
            case "failing0" -> TO_FAIL;
            case "open2" -> MODES;
            case "put2", "write2" -> VALUES;
            case "exit1" -> CODES;
            case "log0", "cached0", "count0" -> VIEWS;
            default -> i == 0 ? PROCESSES : DESCRIPTORS;
        };
    }

    /** The answers to calls that bring a part of the state to light; all of it is more than 512 calls tell. */
    private static String probe(int part, Kernel kernel) {
        StringBuilder seen = new StringBuilder();
        switch (part) {
            case 0 -> hostCells(kernel, seen);
            case 1 -> descriptors(kernel, seen, 1, 3);
            case 2 -> descriptors(kernel, seen, 4, 6);
            default -> filesAndProcesses(kernel, seen);
        }
        views(kernel, seen);
        return seen.toString();
    }

    private static void hostCells(Kernel kernel, StringBuilder seen) {
        for (int file = 0; file <= 7; file++) {
            for (int i = 0; i <= 32; i++) {
                ask(kernel, seen, "host", file, i);
            }
        }
    }

    private static void descriptors(Kernel kernel, StringBuilder seen, int from, int to) {
        for (int process = from; process <= to; process++) {
            for (int descriptor = 0; descriptor <= 5; descriptor++) {
                ask(kernel, seen, "read", process, descriptor);
                ask(kernel, seen, "write", process, descriptor, 200);
                ask(kernel, seen, "dup", process, descriptor);
                for (int position = 32; position >= 0; position -= 4) {
                    ask(kernel, seen, "seek", process, descriptor, position);
                }
                ask(kernel, seen, "read", process, descriptor);
            }
            ask(kernel, seen, "pipe", process);
        }
    }

    private static void filesAndProcesses(Kernel kernel, StringBuilder seen) {
        for (int file = 0; file <= 7; file++) {
            ask(kernel, seen, "open", 1, file, 3);
            ask(kernel, seen, "close", 1, 0);
            ask(kernel, seen, "open", 1, file, 8);
            ask(kernel, seen, "unlink", 1, file);
        }
        for (int process = 6; process >= 1; process--) {
            ask(kernel, seen, "wait", process);
            ask(kernel, seen, "exit", process, 5);
            ask(kernel, seen, "fork", 1);
            ask(kernel, seen, "wait", 1);
        }
        hostCells(kernel, seen);
    }

    private static void views(Kernel kernel, StringBuilder seen) {
        for (int i = 0; i <= 15; i++) {
            ask(kernel, seen, "log", i);
        }
        for (int i = 0; i <= 4; i++) {
            ask(kernel, seen, "cached", i);
            ask(kernel, seen, "count", i);
        }
    }

    private static void ask(Kernel kernel, StringBuilder seen, String call, int... numbers) {
        seen.append(Runs.answerOf(kernel, call, numbers)).append(' ');
    }

    /** A run of random calls answers the same when those that answered below 0 are left out. */
    private static void leftOut(int seed) {
        Random random = new Random(seed);
        Kernel all = Kernel.ofProgram();
        Kernel some = Kernel.ofProgram();
        int[] weights = RandomRunsTest.weights(seed);
        for (int i = 0; i < CALLS_BEFORE_PROBE; i++) {
            int call = RandomRunsTest.chosen(random, weights);
            int[] numbers = RandomRunsTest.numbersFor(random, call);
            int answer = all.answer(Kernel.CALLS[call], numbers);
            if (answer >= 0 || answer == SandKernel.BROKEN) {
                int other = some.answer(Kernel.CALLS[call], numbers);
                Runs.due("Terms: seed " + seed + ", call " + i + ", where refused calls were made", answer, other);
            }
        }
        int part = seed % PARTS;
        Runs.isTrue("Terms: seed " + seed + ": refused calls change nothing", probe(part, all).equals(probe(part, some)));
    }
}
