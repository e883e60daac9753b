import java.io.IOException;
import java.lang.reflect.InvocationTargetException;
import java.lang.reflect.Method;
import java.nio.file.Files;
import java.nio.file.Path;
import java.util.Arrays;
import java.util.Comparator;

/**
 * For each sentence of the document a test of its own. A test's name begins with its promise (p03_) or with the
 * part of the Terms (t2_), and it quotes its sentence, which must stand in DOC.md; all of the Terms and of
 * the promises must be quoted by some test.
 */
public final class SentencesTest {
    private static final Class<?>[] TESTS = {
        TermsOneSentences.class, TermsTwoSentences.class, TermsThreeSentences.class, TextsSentences.class,
        PresenceSentences.class, ActsSentences.class, SoughtSentences.class, RuleSentences.class,
        KeptSentences.class, ThrowsSentences.class};

    public static void main(String[] args) throws IOException, IllegalAccessException {
        Path root = Path.of(args.length > 0 ? args[0] : ".");
        Path path = root.resolve(Path.of("..", "shared", "DOC.md"));
        boolean there = Files.isReadable(path);
        Document document = there ? Document.read(path) : null;
        if (!there) {
            System.out.println("there is no " + path + ": quotes are not looked at");
        }
        int tests = 0;
        for (Class<?> group : TESTS) {
            Method[] methods = group.getDeclaredMethods();
            Arrays.sort(methods, Comparator.comparing(Method::getName));
            for (Method test : methods) {
                Sentences.Says says = test.getAnnotation(Sentences.Says.class);
                if (says != null) {
                    run(test, says, document);
                    tests++;
                }
            }
        }
        if (there) {
            dueAllQuoted(document);
        }
        System.out.println(tests + " tests of single sentences");
        Checks.end();
    }

    private static void dueAllQuoted(Document document) {
        for (String section : document.sections()) {
            if (section.startsWith("Terms") || section.startsWith("Promise")) {
                String left = document.unquoted(section);
                Checks.due(section + " has words that no test quotes: " + left, left.length(), 0);
            }
        }
    }

    private static void run(Method test, Sentences.Says says, Document document) throws IllegalAccessException {
        String name = test.getName();
        Checks.within("");
        Checks.due(name + " is named by its section", name.startsWith(prefix(says.in())), true);
        for (String words : document == null ? new String[0] : says.words()) {
            Checks.due(name + " quotes " + says.in() + ": " + words, document.quote(says.in(), words), true);
        }
        int before = Checks.made();
        Checks.within(name + " (" + says.in() + ": " + says.words()[0] + "): ");
        try {
            test.setAccessible(true);
            test.invoke(null);
        } catch (InvocationTargetException e) {
            Checks.tell("threw " + e.getCause());
        }
        boolean some = Checks.made() > before;
        Checks.within("");
        Checks.due(name + " looks at something", some, true);
    }

    private static String prefix(String section) {
        String[] parts = section.split(" ");
        if (parts[0].equals("Terms")) {
            return "t" + parts[1] + "_";
        }
        if (parts[0].equals("Promise")) {
            return (parts[1].length() < 2 ? "p0" : "p") + parts[1] + "_";
        }
        return "a_";
    }
}
