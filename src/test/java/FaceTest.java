import java.io.IOException;
import java.lang.reflect.Constructor;
import java.lang.reflect.Field;
import java.lang.reflect.Method;
import java.lang.reflect.Modifier;
import java.nio.file.Files;
import java.nio.file.Path;
import java.util.HashSet;
import java.util.Set;
import java.util.TreeSet;
import java.util.regex.Matcher;
import java.util.regex.Pattern;

/** The public face is the document's and no more; rules of LANGUAGE.md that a test can see. */
public final class FaceTest {
    private static final String FACE = """
        int feed(int a, int b, int c, int d, int e);
        int wheel(int n) throws IllegalArgumentException;
        int rule(int n) throws IllegalArgumentException;
        int fault(int what);
        int party(int party, int what) throws NoSuchElementException, IllegalArgumentException;
        int weight(int party, int guest) throws NoSuchElementException, IllegalArgumentException;
        int come(int party) throws NoSuchElementException;
        int visit(int v, int what) throws NoSuchElementException, IllegalArgumentException;
        int waits(int k);
        int car(int car, int what) throws NoSuchElementException, IllegalArgumentException;
        int bag(int car, int n) throws NoSuchElementException, IllegalArgumentException;
        int lean(int car) throws NoSuchElementException;
        int worst(int car) throws NoSuchElementException;
        int sure();
        boolean top();
        int may(int act);
        int load(int v);
        int empty();
        int turn();
        int rest(int minutes) throws IllegalArgumentException;
        int judge(int tray, int what) throws NoSuchElementException, IllegalStateException, IllegalArgumentException;
        int perform(int tray) throws NoSuchElementException, IllegalStateException;
        int empties(int what) throws IllegalArgumentException;
        int fills(int t, int what) throws IllegalArgumentException;
        int bags(int what) throws IllegalArgumentException;
        int ballast(int w, int what) throws IllegalArgumentException;
        int alike(int image) throws NoSuchElementException, IllegalStateException;
        boolean so(int step) throws NoSuchElementException;
        int go();
        int day(int seed, int minutes, int come, int what) throws IllegalArgumentException;
        int days(int n, int minutes, int come, int what) throws IllegalArgumentException;
        void tray(int tray, int sort, int many) throws NoSuchElementException, IllegalArgumentException;
        long write(int tray, int place, long v) throws NoSuchElementException, IllegalStateException, IndexOutOfBoundsException;
        void image(int i) throws NoSuchElementException;
        void restore(int i) throws NoSuchElementException, IllegalStateException;
        int count(int what);
        """;

    public static void main(String[] args) throws IOException {
        Path root = Path.of(args.length > 0 ? args[0] : ".");
        Path document = root.resolve(Path.of("..", "shared", "DOC.md"));
        Set<String> face = heads(FACE);
        Checks.due("methods of the face", face.size(), 36);
        if (Files.isReadable(document)) {
            Checks.due("the face as the document tells it", face.equals(toldFace(Files.readString(document))), true);
        } else {
            System.out.println("there is no " + document + ": the face is as it was last told");
        }
        face(face);
        nested();
        source(Files.readString(root.resolve(Path.of("src", "main", "java", "GreatWheel.java"))));
        Checks.end();
    }

    /** Heads of the methods as the document's public face tells them, each with what it may throw, in that order. */
    private static Set<String> toldFace(String document) {
        String section = document.substring(document.indexOf("## The public face"), document.indexOf("## Terms"));
        return heads(section.replace("    public GreatWheel();", "").replace("public ", ""));
    }

    private static Set<String> heads(String text) {
        Set<String> told = new TreeSet<>();
        Matcher head = Pattern.compile("(\\w+ \\w+\\([^)]*\\)[^;]*);").matcher(text);
        while (head.find()) {
            told.add(head.group(1).replaceAll("(int|long) \\w+(?=[,)])", "$1").replace(", ", ","));
        }
        return told;
    }

    private static void face(Set<String> face) {
        Class<?> c = GreatWheel.class;
        Checks.due("public and final", c.getModifiers(), Modifier.PUBLIC | Modifier.FINAL);
        Set<String> open = new TreeSet<>();
        Set<String> names = new HashSet<>();
        for (Method m : c.getDeclaredMethods()) {
            if (!Modifier.isPrivate(m.getModifiers())) {
                Checks.due("public: " + m, m.getModifiers(), Modifier.PUBLIC);
                open.add(told(m));
                names.add(m.getName());
            }
        }
        for (String method : face) {
            Checks.due("the face has " + method, open.contains(method), true);
        }
        Checks.due("no more than the face", open.size(), face.size());
        for (Method m : c.getDeclaredMethods()) {
            Checks.due("no private one bears a public name: " + m,
                    Modifier.isPrivate(m.getModifiers()) && names.contains(m.getName()), false);
        }
        int constructors = 0;
        for (Constructor<?> made : c.getDeclaredConstructors()) {
            Checks.due("constructor", made.getModifiers(), Modifier.PUBLIC);
            constructors++;
        }
        Checks.due("constructors", constructors, 1);
        for (Field f : c.getFields()) {
            Checks.due("NONE alone: " + f, f.getName().equals("NONE") && f.getType() == int.class
                    && Modifier.isStatic(f.getModifiers()) && Modifier.isFinal(f.getModifiers()), true);
        }
        for (Field f : c.getDeclaredFields()) {
            Checks.due("field " + f.getName(), Modifier.isPrivate(f.getModifiers()), !f.getName().equals("NONE"));
        }
    }

    private static String told(Method m) {
        StringBuilder b = new StringBuilder();
        for (Class<?> p : m.getParameterTypes()) {
            b.append(b.length() == 0 ? "" : ",").append(p.getSimpleName());
        }
        StringBuilder thrown = new StringBuilder();
        for (Class<?> e : m.getExceptionTypes()) {
            thrown.append(thrown.length() == 0 ? " throws " : ",").append(e.getSimpleName());
        }
        return m.getReturnType().getSimpleName() + " " + m.getName() + "(" + b + ")" + thrown;
    }

    private static void nested() {
        int classes = 1;
        for (Class<?> c : GreatWheel.class.getDeclaredClasses()) {
            classes++;
            Checks.due("static " + c, Modifier.isStatic(c.getModifiers()), true);
            Checks.due("private " + c, Modifier.isPrivate(c.getModifiers()), true);
            int fields = 0;
            for (Field f : c.getDeclaredFields()) {
                boolean still = Modifier.isStatic(f.getModifiers());
                Checks.due("final " + f, !still || Modifier.isFinal(f.getModifiers()), true);
                fields += still ? 0 : 1;
            }
            Checks.due("fields of " + c, fields <= 20, true);
            for (Method m : c.getDeclaredMethods()) {
                Checks.due("parameters of " + m, m.getParameterCount() <= 7, true);
            }
        }
        Checks.due("classes", classes <= 12, true);
    }

    private static void source(String text) {
        String code = text.replaceAll("(?s)/\\*.*?\\*/", "").replaceAll("//[^\n]*", "")
                .replaceAll("\"[^\"\n]*\"", "\"\"");
        for (String word : new String[] {"->", "::", "\\btry\\b", "\\bcatch\\b", "\\bfinally\\b", "synchronized",
            "\\bassert\\b", "System\\.(?!arraycopy)", "Exact\\b", "\\bhashCode\\b", "\\btoString\\b", "\\bvar\\b",
            "Object\\b", "static \\{", "\\bpackage\\b"}) {
            Checks.due("no " + word, Pattern.compile(word).matcher(code).find(), false);
        }
        Matcher imports = Pattern.compile("import ([^;]*);").matcher(code);
        while (imports.find()) {
            String name = imports.group(1);
            Checks.due("import " + name,
                    name.equals("java.util.Arrays") || name.equals("java.util.NoSuchElementException"), true);
        }
        Matcher divided = Pattern.compile("[%/]\\s*([^\\s;)]+)").matcher(code);
        while (divided.find()) {
            Checks.due("divided by a number alone: " + divided.group(1),
                    divided.group(1).matches("[1-9][0-9]*"), true);
        }
        Matcher thrown = Pattern.compile("throw new (\\w+)\\(\"\"\\)").matcher(code);
        int throwsTold = 0;
        while (thrown.find()) {
            throwsTold++;
        }
        Matcher allThrown = Pattern.compile("\\bthrow\\b").matcher(code);
        int throwsAll = 0;
        while (allThrown.find()) {
            throwsAll++;
        }
        Checks.due("every throw is of a written text", throwsAll, throwsTold);
        shortMethods(text);
    }

    private static void shortMethods(String text) {
        String[] lines = text.split("\n");
        int begin = -1;
        String end = "";
        for (int i = 0; i < lines.length; i++) {
            String line = lines[i];
            String bare = line.trim();
            boolean opens = line.endsWith("{") && bare.contains("(") && !bare.startsWith("if")
                    && !bare.startsWith("for") && !bare.startsWith("while") && !bare.startsWith("switch")
                    && !bare.startsWith("}");
            if (begin < 0 && opens) {
                begin = i;
                end = line.substring(0, line.length() - bare.length()) + "}";
            } else if (begin >= 0 && line.equals(end)) {
                Checks.due("short: " + lines[begin], i - begin < 60, true);
                begin = -1;
            }
        }
    }
}
