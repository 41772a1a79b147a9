import java.io.IOException;
import java.nio.file.Files;
import java.nio.file.Path;
import java.util.List;
import java.util.regex.Matcher;
import java.util.regex.Pattern;

/** Rules of LANGUAGE.md that can be seen in the text of the program; it is run in the project's folder. */
public final class RulesTest {
    private static final List<String> FORBIDDEN = List.of(
            "\\b(throw|throws|try|catch|finally|synchronized|assert|package|native|volatile)\\b",
            "->", "::", "@", "\\bstatic\\s*\\{", "\\b(equals|hashCode|toString|values)\\s*\\(",
            "\\bSystem\\.(?!arraycopy\\b)", "\\bArrays\\.(?!fill\\b|copyOf\\b|copyOfRange\\b)",
            "\\bMath\\.\\w+Exact\\b", "\\b(Random|Thread|Runtime|Object)\\b",
            "\\bimport (?!java\\.util\\.(Arrays|ArrayList|List|Iterator);)",
            "\\bwhile\\s*\\(true\\)", "\\bfor\\s*\\(;;");

    public static void main(String[] args) throws IOException {
        String text = Files.readString(Path.of("src/main/java/SandKernel.java"));
        String code = text.replaceAll("(?s)/\\*.*?\\*/", "").replaceAll("//[^\n]*", "");
        for (String pattern : FORBIDDEN) {
            Matcher found = Pattern.compile(pattern).matcher(code);
            Runs.isTrue("rules 2 to 6: no " + pattern, !found.find());
        }
        Matcher mutable = Pattern.compile("\\bstatic (?!final\\b|boolean \\w+\\()").matcher(code);
        Runs.isTrue("rule 5: what is static is final", !mutable.find());
        Runs.isTrue("rule 11: at most twelve classes", code.split("\\bclass\\b").length - 1 <= 12);
        Runs.finish();
    }
}
