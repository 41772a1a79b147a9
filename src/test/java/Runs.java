import java.util.List;

/**
 * Runs of calls on new objects, written as text: a row is a call, its numbers, '=' and the answer
 * that is due (a number or a constant's name); rows may stand on one line, parted by ';'.
 */
final class Runs {
    private static final List<String> CONSTANTS = List.of(
            "REFUSED", "FULL", "CLOSED", "ABSENT", "DENIED", "AGAIN", "END", "BROKEN", "BUSY");
    private static int wrong = 0;
    private static int rows = 0;

    private Runs() {
    }

    static void run(String title, String text) {
        Kernel kernel = Kernel.ofProgram();
        for (String row : text.split("[;\n]")) {
            if (!row.isBlank()) {
                String[] sides = row.split("=");
                String[] words = sides[0].trim().split(" +");
                int[] numbers = new int[words.length - 1];
                for (int i = 0; i < numbers.length; i++) {
                    numbers[i] = Integer.parseInt(words[i + 1]);
                }
                due(title + ": " + sides[0].trim(), answerOf(kernel, words[0], numbers), value(sides[1].trim()));
            }
        }
    }

    static void due(String what, long got, long want) {
        rows++;
        if (got != want) {
            wrong++;
            System.out.println(what + " answered " + got + ", due is " + want);
        }
    }

    static void isTrue(String what, boolean holds) {
        due(what, holds ? 1 : 0, 1);
    }

    /** Ends the program with exit code 1 if an answer was wrong, or if nothing was tested. */
    static void finish() {
        System.out.println(rows + " answers, " + wrong + " not as due");
        if (wrong != 0 || rows == 0) {
            System.exit(1);
        }
    }

    private static long answerOf(Kernel kernel, String call, int[] numbers) {
        try {
            return kernel.answer(call, numbers);
        } catch (RuntimeException e) {
            System.out.println(call + " threw " + e);
            return Long.MIN_VALUE;
        }
    }

    private static long value(String text) {
        int at = CONSTANTS.indexOf(text);
        return at >= 0 ? -1 - at : Long.parseLong(text);
    }
}
