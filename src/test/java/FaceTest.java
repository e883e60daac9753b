import java.io.IOException;
import java.lang.reflect.Constructor;
import java.lang.reflect.Field;
import java.lang.reflect.Method;
import java.lang.reflect.Modifier;
import java.nio.file.Files;
import java.nio.file.Path;
import java.util.Arrays;
import java.util.HashSet;
import java.util.Set;
import java.util.regex.Matcher;
import java.util.regex.Pattern;

/** The public face is the document's and no more; rules of LANGUAGE.md that a test can see. */
public final class FaceTest {
    private static final String[] FACE = {
        "int feed(int,int,int,int,int)", "int wheel(int)", "int rule(int)", "int fault(int)", "int party(int,int)",
        "int weight(int,int)", "int come(int)", "int visit(int,int)", "int waits(int)", "int car(int,int)",
        "int bag(int,int)", "int lean(int)", "int worst(int)", "int sure()", "boolean top()", "int may(int)",
        "int load(int)", "int empty()", "int turn()", "int rest(int)", "int judge(int,int)", "int perform(int)",
        "int empties(int)", "int fills(int,int)", "int bags(int)", "int ballast(int,int)", "int alike(int)",
        "boolean so(int)", "int go()", "int day(int,int,int,int)", "int days(int,int,int,int)",
        "void tray(int,int,int)", "long write(int,int,long)", "void image(int)", "void restore(int)",
        "int count(int)"};

    public static void main(String[] args) throws IOException {
        face();
        nested();
        if (args.length > 0) {
            source(Files.readString(Path.of(args[0], "src", "main", "java", "GreatWheel.java")));
        }
        Checks.end();
    }

    private static void face() {
        Class<?> c = GreatWheel.class;
        Checks.due("public and final", c.getModifiers(), Modifier.PUBLIC | Modifier.FINAL);
        Set<String> open = new HashSet<>();
        Set<String> names = new HashSet<>();
        for (Method m : c.getDeclaredMethods()) {
            if (!Modifier.isPrivate(m.getModifiers())) {
                Checks.due("public: " + m, m.getModifiers(), Modifier.PUBLIC);
                open.add(told(m));
                names.add(m.getName());
            }
        }
        Checks.due("the face", open.equals(new HashSet<>(Arrays.asList(FACE))), true);
        for (Method m : c.getDeclaredMethods()) {
            Checks.due("no private one bears a public name: " + m,
                    Modifier.isPrivate(m.getModifiers()) && names.contains(m.getName()), false);
        }
        int constructors = 0;
        for (Constructor<?> made : c.getDeclaredConstructors()) {
            Checks.due("constructor", made.getModifiers(), Modifier.PUBLIC);
            constructors++;
        }
        Checks.due("constructors", constructors, 1);
        for (Field f : c.getDeclaredFields()) {
            Checks.due("field " + f.getName(), Modifier.isPrivate(f.getModifiers()), !f.getName().equals("NONE"));
        }
    }

    private static String told(Method m) {
        StringBuilder b = new StringBuilder();
        for (Class<?> p : m.getParameterTypes()) {
            b.append(b.length() == 0 ? "" : ",").append(p.getSimpleName());
        }
        return m.getReturnType().getSimpleName() + " " + m.getName() + "(" + b + ")";
    }

    private static void nested() {
        int classes = 1;
        for (Class<?> c : GreatWheel.class.getDeclaredClasses()) {
            classes++;
            Checks.due("static " + c, Modifier.isStatic(c.getModifiers()), true);
            Checks.due("private " + c, Modifier.isPrivate(c.getModifiers()), true);
            int fields = 0;
            for (Field f : c.getDeclaredFields()) {
                boolean still = Modifier.isStatic(f.getModifiers());
                Checks.due("final " + f, !still || Modifier.isFinal(f.getModifiers()), true);
                fields += still ? 0 : 1;
            }
            Checks.due("fields of " + c, fields <= 20, true);
            for (Method m : c.getDeclaredMethods()) {
                Checks.due("parameters of " + m, m.getParameterCount() <= 7, true);
            }
        }
        Checks.due("classes", classes <= 12, true);
    }

    private static void source(String text) {
        String code = text.replaceAll("(?s)/\\*.*?\\*/", "").replaceAll("//[^\n]*", "")
                .replaceAll("\"[^\"\n]*\"", "\"\"");
        for (String word : new String[] {"->", "::", "\\btry\\b", "\\bcatch\\b", "\\bfinally\\b", "synchronized",
            "\\bassert\\b", "System\\.(?!arraycopy)", "Exact\\b", "\\bhashCode\\b", "\\btoString\\b", "\\bvar\\b",
            "Object\\b", "static \\{", "\\bpackage\\b"}) {
            Checks.due("no " + word, Pattern.compile(word).matcher(code).find(), false);
        }
        Matcher imports = Pattern.compile("import ([^;]*);").matcher(code);
        while (imports.find()) {
            String name = imports.group(1);
            Checks.due("import " + name,
                    name.equals("java.util.Arrays") || name.equals("java.util.NoSuchElementException"), true);
        }
        Matcher divided = Pattern.compile("[%/]\\s*([^\\s;)]+)").matcher(code);
        while (divided.find()) {
            Checks.due("divided by a number alone: " + divided.group(1),
                    divided.group(1).matches("[1-9][0-9]*"), true);
        }
        Matcher thrown = Pattern.compile("throw new (\\w+)\\(\"\"\\)").matcher(code);
        int throwsTold = 0;
        while (thrown.find()) {
            throwsTold++;
        }
        Matcher allThrown = Pattern.compile("\\bthrow\\b").matcher(code);
        int throwsAll = 0;
        while (allThrown.find()) {
            throwsAll++;
        }
        Checks.due("every throw is of a written text", throwsAll, throwsTold);
        shortMethods(text);
    }

    private static void shortMethods(String text) {
        String[] lines = text.split("\n");
        int begin = -1;
        String end = "";
        for (int i = 0; i < lines.length; i++) {
            String line = lines[i];
            String bare = line.trim();
            boolean opens = line.endsWith("{") && bare.contains("(") && !bare.startsWith("if")
                    && !bare.startsWith("for") && !bare.startsWith("while") && !bare.startsWith("switch")
                    && !bare.startsWith("}");
            if (begin < 0 && opens) {
                begin = i;
                end = line.substring(0, line.length() - bare.length()) + "}";
            } else if (begin >= 0 && line.equals(end)) {
                Checks.due("short: " + lines[begin], i - begin < 60, true);
                begin = -1;
            }
        }
    }
}
