import java.io.IOException;
import java.lang.reflect.Method;
import java.nio.file.DirectoryStream;
import java.nio.file.Files;
import java.nio.file.Path;
import java.util.Map;
import java.util.Set;
import java.util.TreeMap;
import java.util.TreeSet;
import java.util.regex.Matcher;
import java.util.regex.Pattern;

/**
 * Makes a program of the Java that README.md shows: it calls what is called there, and fails where an answer is
 * not the one behind the call's comment. Fails itself where a call is shown without an answer, or never shown.
 */
public final class ReadmeProgram {
    private static final Pattern BLOCK = Pattern.compile("```java\n(.*?)```", Pattern.DOTALL);
    private static final Pattern CALL = Pattern.compile("(x\\.(\\w+)\\(.*\\)); *// (.*)", Pattern.DOTALL);
    private static final Pattern ANSWER = Pattern.compile("(-?\\d+|NONE|true|false|throws \\w+): .*");

    private final StringBuilder walk = new StringBuilder();
    private final StringBuilder helpers = new StringBuilder();
    private final Set<String> shown = new TreeSet<>();

    public static void main(String[] args) throws IOException {
        Path root = Path.of(args.length > 0 ? args[0] : ".");
        ReadmeProgram made = new ReadmeProgram();
        String readme = Files.readString(root.resolve("README.md"));
        made.readBlocks(readme);
        made.needEachCall();
        needTests(readme, sources(root.resolve(Path.of("src", "test", "java"))));
        if (args.length > 1) {
            Files.writeString(Path.of(args[1], "ReadmeRuns.java"), made.program());
        }
        Checks.end();
    }

    private void readBlocks(String readme) {
        Matcher block = BLOCK.matcher(readme);
        while (block.find()) {
            String text = block.group(1);
            if (text.startsWith("static ")) {
                helpers.append(text);
            } else {
                readStatements(text);
            }
        }
    }

    /** A statement goes on where a line is drawn in; its comment stands behind its last line. */
    private void readStatements(String text) {
        for (String statement : text.split("\n(?! )")) {
            if (!statement.isBlank()) {
                putStatement(statement.strip());
            }
        }
    }

    private void putStatement(String statement) {
        Matcher call = CALL.matcher(statement);
        if (!call.matches()) {
            Checks.due("an object is made, where no call is: " + statement, statement.contains("new GreatWheel()"), true);
            walk.append(statement).append('\n');
            return;
        }
        shown.add(call.group(2));
        Matcher answer = ANSWER.matcher(call.group(3));
        if (isVoid(call.group(2)) && !call.group(3).startsWith("throws ")) {
            walk.append(call.group(1)).append(";\n");
            return;
        }
        boolean told = answer.matches();
        Checks.due("an answer stands behind " + statement, told, true);
        if (told) {
            walk.append("due(").append(quoted(call.group(1))).append(", ").append(quoted(answer.group(1)))
                .append(", () -> ").append(asValue(call.group(1), call.group(2))).append(");\n");
        }
    }

    /** What answers nothing is shown beside its throw alone, so it needs some value to fit the lambda. */
    private static String asValue(String call, String name) {
        return isVoid(name) ? "{ " + call + "; return null; }" : call;
    }

    private static boolean isVoid(String name) {
        for (Method method : GreatWheel.class.getDeclaredMethods()) {
            if (method.getName().equals(name)) {
                return method.getReturnType() == void.class;
            }
        }
        return false;
    }

    private static String quoted(String text) {
        String told = text.replace("\n", " ");
        return '"' + told.replace("\\", "\\\\").replace("\"", "\\\"") + '"';
    }

    private void needEachCall() {
        for (Method method : GreatWheel.class.getMethods()) {
            if (method.getDeclaringClass() == GreatWheel.class) {
                Checks.due("README.md shows " + method.getName(), shown.contains(method.getName()), true);
            }
        }
    }

    private static Map<String, String> sources(Path folder) throws IOException {
        Map<String, String> sources = new TreeMap<>();
        try (DirectoryStream<Path> files = Files.newDirectoryStream(folder, "*.java")) {
            for (Path file : files) {
                sources.put(file.getFileName().toString().replace(".java", ""), Files.readString(file));
            }
        }
        return sources;
    }

    /** Each test is told of, and what is told of as a test of a single sentence is there. */
    private static void needTests(String readme, Map<String, String> sources) {
        for (String name : sources.keySet()) {
            if (name.endsWith("Test") || name.endsWith("Sentences") && !name.equals("Sentences")) {
                Checks.due("README.md names " + name, readme.contains('`' + name + '`'), true);
            }
        }
        Matcher named = Pattern.compile("`([pt]\\d+_\\w+)`").matcher(readme);
        while (named.find()) {
            String head = named.group(1) + "(";
            Checks.due("there is a test " + head, String.join("", sources.values()).contains(head), true);
        }
    }

    private String program() {
        return """
            public final class ReadmeRuns {
                private static int wrong = 0;

                interface Answer { Object get(); }

                static void due(String call, String want, Answer answer) {
                    String got;
                    try {
                        got = String.valueOf(answer.get());
                    } catch (RuntimeException e) {
                        got = "throws " + e.getClass().getSimpleName();
                    }
                    if (!got.equals(want.equals("NONE") ? String.valueOf(GreatWheel.NONE) : want)) {
                        System.out.println("README.md: " + call + " answers " + got + ", told is " + want);
                        wrong++;
                    }
                }

                public static void main(String[] args) {
            """ + walk + """
                    System.out.println(wrong + " wrong answers in README.md");
                    if (wrong > 0) {
                        System.exit(1);
                    }
                }

            """ + helpers + "}\n";
    }
}
