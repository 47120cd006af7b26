import java.io.IOException;
import java.nio.file.Files;
import java.nio.file.Path;
import java.util.ArrayList;
import java.util.HashSet;
import java.util.List;
import java.util.Map;
import java.util.Set;
import java.util.TreeMap;
import java.util.regex.Matcher;
import java.util.regex.Pattern;
import java.util.stream.Stream;

/** What of LANGUAGE.md can be seen in the text of the class (the argument: its file), from the project's root. */
public final class LanguageTest {
    private static final String[] NEVER = {"\\btry\\b", "\\bcatch\\b", "\\bfinally\\b", "\\bsynchronized\\b",
        "\\bassert\\b", "->", "::", "\\bpackage\\b", "\\bprotected\\b", "Exact\\(", "\\bdouble\\b", "\\bfloat\\b",
        "System\\.(?!arraycopy)", "\\bstatic \\{", "\\binstanceof\\b", "Thread", "Random", "\\.equals\\(", "hashCode",
        "toString", "Integer\\.", "Long\\.", "\\[\\]\\[\\]\\["};
    private static final Set<String> LIBRARY =
            Set.of("Math.min", "Math.max", "Arrays.fill", "System.arraycopy");
    private static final int MOST_CALLS_DEEP = 8;

    private static final Pattern METHOD = Pattern.compile("^ {4,8}(?!return|throw|else|if|for|while|switch)"
            + "(?:[\\w\\[\\], ]+ )?(\\w+)\\([^()]*\\)(?: throws [\\w, ]+)? \\{\\n(.*?)^ {4,8}\\}\\n",
            Pattern.DOTALL | Pattern.MULTILINE);
    private static final Pattern CALL = Pattern.compile("(\\w+)\\(");
    private static final Pattern LIBRARY_CALL = Pattern.compile("\\b([A-Z][a-z]\\w*\\.\\w+)\\(");

    public static void main(String[] args) throws Exception {
        Path file = Path.of(args[0]);
        oneFile(file);
        List<String> lines = Files.readAllLines(file);
        lineByLine(lines);
        String code = codeOf(lines);
        faceOfTheDocument(code);
        library(code);
        depth(code);
        Checks.end("LanguageTest");
    }

    /** "The program is one file, src/main/java/ObsMessages.java" */
    private static void oneFile(Path file) throws IOException {
        try (Stream<Path> all = Files.walk(Path.of("src/main"))) {
            Checks.due("files of the program", all.filter(Files::isRegularFile).toList().toString(),
                    List.of(Path.of("src/main/java/ObsMessages.java")).toString());
        }
        Checks.due("the file that is looked at", Files.isSameFile(file, Path.of("src/main/java/ObsMessages.java")), true);
    }

    private static String plain(String line) {
        return line.replaceAll("\"[^\"]*\"", "\"\"").replaceAll("//.*|^\\s*(/\\*\\*|\\*).*", "");
    }

    private static String codeOf(List<String> lines) {
        StringBuilder code = new StringBuilder();
        for (String line : lines) {
            code.append(plain(line)).append('\n');
        }
        return code.toString();
    }

    private static void lineByLine(List<String> lines) {
        int inMethod = 0;
        for (int n = 0; n < lines.size(); n++) {
            String line = lines.get(n);
            String code = plain(line);
            String where = "line " + (n + 1) + ": " + line.trim();
            for (String never : NEVER) {
                Checks.due(where + " has " + never, Pattern.compile(never).matcher(code).find(), false);
            }
            if (code.startsWith("import")) {
                Checks.due(where, code, "import java.util.Arrays;");
            }
            if (code.contains("throw ")) {
                Checks.due(where + " throws plainly", line.matches(" *throw new (IllegalArgument|IllegalState"
                        + "|IndexOutOfBounds)Exception\\(\"[^\"]*\"\\);"), true);
            }
            boolean begins = code.matches(" {4,8}(?!.*\\b(class|new)\\b).*\\) ?(throws .*)?\\{");
            inMethod = begins ? 1 : inMethod == 0 ? 0 : inMethod + 1;
            Checks.due(where + " lies beyond sixty lines of a method", inMethod > 60, false);
            if (code.matches(" {4,8}\\}")) {
                inMethod = 0;
            }
            Checks.due(where + " is ASCII", line.chars().allMatch(c -> c < 128), true);
        }
    }

    /** "public and final, with the public constructor, methods and constants of the document and no other public" */
    private static void faceOfTheDocument(String code) throws IOException {
        List<String> face = faceLines();
        Checks.due("lines of the face in the document", face.size(), 25);
        for (String line : face) {
            boolean opens = line.endsWith(");") || line.contains(" throws ");
            String due = opens ? line.substring(0, line.length() - 1) + " {" : line;
            Checks.due("times that the class has: " + due, code.split(Pattern.quote(due), -1).length - 1, 1);
        }
        Checks.due("public members, with the class", code.split("\\bpublic\\b", -1).length - 1, face.size());
    }

    private static List<String> faceLines() throws IOException {
        List<String> face = new ArrayList<>();
        boolean within = false;
        for (String line : Files.readAllLines(Path.of("../shared/DOC.md"))) {
            within = within ? !line.equals("```") : line.equals("```java");
            if (within && line.contains("public ")) {
                face.add(line.trim());
            }
        }
        return face;
    }

    /** "The library: only what stands here." */
    private static void library(String code) {
        Matcher call = LIBRARY_CALL.matcher(code);
        while (call.find()) {
            String name = call.group(1);
            boolean own = code.contains("private static final class " + name.substring(0, name.indexOf('.')) + " {");
            Checks.due(name + " is of the class, or of the few of the library", own || LIBRARY.contains(name), true);
        }
    }

    /**
     * "calls that are no recursion go at most eight deep", and there is no recursion. Methods of one name count as one,
     * so that the calls are at most as deep as this says.
     */
    private static void depth(String code) {
        Map<String, String> bodies = new TreeMap<>();
        Matcher method = METHOD.matcher(code);
        while (method.find()) {
            bodies.merge(method.group(1), method.group(2), String::concat);
        }
        Checks.due("methods were found", bodies.size() > 100 && bodies.containsKey("compile"), true);
        for (String name : bodies.keySet()) {
            Checks.due(name + " calls at most eight deep", deep(name, bodies, 1) <= MOST_CALLS_DEEP, true);
        }
    }

    private static int deep(String name, Map<String, String> bodies, int level) {
        if (level > MOST_CALLS_DEEP) {
            return level;
        }
        int most = level;
        Set<String> seen = new HashSet<>();
        Matcher call = CALL.matcher(bodies.get(name));
        while (call.find()) {
            if (bodies.containsKey(call.group(1)) && seen.add(call.group(1))) {
                most = Math.max(most, deep(call.group(1), bodies, level + 1));
            }
        }
        return most;
    }
}
