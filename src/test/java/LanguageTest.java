import java.nio.file.Files;
import java.nio.file.Path;
import java.util.List;
import java.util.regex.Pattern;

/** What of LANGUAGE.md can be seen in the text of the class (the argument: its file). */
public final class LanguageTest {
    private static final String[] NEVER = {"\\btry\\b", "\\bcatch\\b", "\\bfinally\\b", "\\bsynchronized\\b",
        "\\bassert\\b", "->", "::", "\\bpackage\\b", "\\bprotected\\b", "Exact\\(", "\\bdouble\\b", "\\bfloat\\b",
        "System\\.(?!arraycopy)", "\\bstatic \\{", "\\binstanceof\\b", "Thread", "Random", "\\.equals\\(", "hashCode",
        "toString", "Integer\\.", "Long\\.", "\\[\\]\\[\\]\\["};

    public static void main(String[] args) throws Exception {
        List<String> lines = Files.readAllLines(Path.of(args[0]));
        int inMethod = 0;
        for (int n = 0; n < lines.size(); n++) {
            String line = lines.get(n);
            String code = line.replaceAll("\"[^\"]*\"", "\"\"").replaceAll("//.*|^\\s*(/\\*\\*|\\*).*", "");
            String where = "line " + (n + 1) + ": " + line.trim();
            for (String never : NEVER) {
                Checks.due(where + " has " + never, Pattern.compile(never).matcher(code).find(), false);
            }
            if (code.startsWith("import")) {
                Checks.due(where, code, "import java.util.Arrays;");
            }
            if (code.contains("throw ")) {
                Checks.due(where + " throws plainly", line.matches(" *throw new (IllegalArgument|IllegalState"
                        + "|IndexOutOfBounds)Exception\\(\"[^\"]*\"\\);"), true);
            }
            boolean begins = code.matches(" {4,8}(?!.*\\b(class|new)\\b).*\\) ?(throws .*)?\\{");
            inMethod = begins ? 1 : inMethod == 0 ? 0 : inMethod + 1;
            Checks.due(where + " lies beyond sixty lines of a method", inMethod > 60, false);
            if (code.matches(" {4,8}\\}")) {
                inMethod = 0;
            }
            Checks.due(where + " is ASCII", line.chars().allMatch(c -> c < 128), true);
        }
        Checks.end("LanguageTest");
    }
}
