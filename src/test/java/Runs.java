import java.util.ArrayList;
import java.util.List;

/**
 * Runs of calls on new objects, written as text: a row is a call, its numbers, '=' and the answer
 * that is due (a number or a constant's name); rows may stand on one line, parted by ';'.
 */
final class Runs {
    /** The document's constants, -1 first. */
    static final List<String> CONSTANTS = List.of(
            "REFUSED", "FULL", "CLOSED", "ABSENT", "DENIED", "AGAIN", "END", "BROKEN", "BUSY");
    private static int wrong = 0;
    private static int rows = 0;

    private Runs() {
    }

    /** Also runs the model, so that a wrong answer there does not hide behind a right one here. */
    static void run(String title, String text) {
        run(title, text, Kernel.ofProgram());
        run("the model, " + title, text, new Model());
    }

    /** The row once for each number from .. to, which stands in the place of '#'. */
    static String each(int from, int to, String row) {
        StringBuilder all = new StringBuilder();
        for (int i = from; i <= to; i++) {
            all.append(row.replace("#", Integer.toString(i))).append("\n");
        }
        return all.toString();
    }

    static void due(String what, long got, long want) {
        rows++;
        if (got != want) {
            wrong++;
            System.out.println(what + " answered " + got + ", due is " + want);
        }
    }

    static void isTrue(String what, boolean holds) {
        due(what, holds ? 1 : 0, 1);
    }

    /** Ends the program with exit code 1 if an answer was wrong, or if nothing was tested. */
    static void finish() {
        System.out.println(rows + " answers, " + wrong + " not as due");
        if (wrong != 0 || rows == 0) {
            System.exit(1);
        }
    }

    /** Makes the calls of a text on an object, whatever they answer. */
    static Kernel replay(String text, Kernel kernel) {
        for (String row : rowsOf(text)) {
            String[] words = words(row);
            answerOf(kernel, words[0], numbers(words));
        }
        return kernel;
    }

    /** What a call answers, or Long.MIN_VALUE if it throws. */
    static long answerOf(Kernel kernel, String call, int[] numbers) {
        try {
            return kernel.answer(call, numbers);
        } catch (RuntimeException e) {
            System.out.println(call + " threw " + e);
            return Long.MIN_VALUE;
        }
    }

    private static void run(String title, String text, Kernel kernel) {
        for (String row : rowsOf(text)) {
            String[] words = words(row);
            due(title + ": " + row, answerOf(kernel, words[0], numbers(words)), value(row.split("=")[1].trim()));
        }
    }

    private static List<String> rowsOf(String text) {
        List<String> rows = new ArrayList<>();
        for (String row : text.split("[;\n]")) {
            if (!row.isBlank()) {
                rows.add(row.trim());
            }
        }
        return rows;
    }

    private static String[] words(String row) {
        return row.split("=")[0].trim().split(" +");
    }

    private static int[] numbers(String[] words) {
        int[] numbers = new int[words.length - 1];
        for (int i = 0; i < numbers.length; i++) {
            numbers[i] = Integer.parseInt(words[i + 1]);
        }
        return numbers;
    }

    static long value(String text) {
        int at = CONSTANTS.indexOf(text);
        return at >= 0 ? -1 - at : Long.parseLong(text);
    }
}
