import java.io.IOException;
import java.nio.file.Files;
import java.nio.file.Path;
import java.util.Arrays;
import java.util.HashMap;
import java.util.List;
import java.util.Map;
import java.util.regex.Matcher;
import java.util.regex.Pattern;

/** README.md: its examples answer what their comments say, and it names all of the face. */
public final class ReadmeTest {
    private static final Pattern CALL = Pattern.compile(
            "(?:int (\\w+) = )?kernel\\.(\\w+)\\(([\\w, ]*)\\); +// (-?\\d+|[A-Z]+)(?:: .*)?");
    private static final String NEW_OBJECT = "SandKernel kernel = new SandKernel();";

    private final Map<String, Integer> variables = new HashMap<>();
    private Kernel kernel;

    public static void main(String[] args) throws IOException {
        String text = Files.readString(Path.of("README.md"));
        new ReadmeTest().examples(text);
        for (String call : Kernel.CALLS) {
            Runs.isTrue("README.md tells of " + call, text.contains("`" + call + "("));
        }
        for (int i = 0; i < Runs.CONSTANTS.size(); i++) {
            String row = "| `" + Runs.CONSTANTS.get(i) + "` " + (-1 - i) + " |";
            Runs.isTrue("README.md has the row " + row, text.contains(row));
        }
        Runs.finish();
    }

    private void examples(String text) {
        List<String> parts = Arrays.asList(text.split("```"));
        int calls = 0;
        for (String part : parts) {
            if (part.startsWith("java\n")) {
                for (String row : part.substring("java\n".length()).split("\n")) {
                    example(row);
                    calls++;
                }
            }
        }
        Runs.isTrue("README.md has examples", calls > 0);
    }

    private void example(String row) {
        if (row.equals(NEW_OBJECT)) {
            kernel = Kernel.ofProgram();
            variables.clear();
            return;
        }
        Matcher call = CALL.matcher(row);
        boolean isRead = call.matches();
        Runs.isTrue("README.md: a row that can be read: " + row, isRead);
        if (isRead) {
            int[] numbers = Arrays.stream(call.group(3).split(", ")).mapToInt(this::number).toArray();
            long got = Runs.answerOf(kernel, call.group(2), numbers);
            Runs.due("README.md: " + row, got, Runs.value(call.group(4)));
            if (call.group(1) != null) {
                variables.put(call.group(1), (int) got);
            }
        }
    }

    private int number(String text) {
        return variables.containsKey(text) ? variables.get(text) : Integer.parseInt(text);
    }
}
