import java.nio.charset.StandardCharsets;
import java.util.Arrays;

/** What the tests share: counting wrong answers, feeding texts. */
final class Checks {
    static final int MOST_TOLD = 40;

    private static int made = 0;
    private static int wrong = 0;
    private static String within = "";

    private Checks() {
    }

    interface Call {
        void run();
    }

    /** What is told of wrong answers from here on begins so. */
    static void within(String name) {
        within = name;
    }

    static int made() {
        return made;
    }

    static void due(String name, long got, long want) {
        made++;
        if (got != want) {
            tell(name + " answered " + got + ", due is " + want);
        }
    }

    static void due(String name, boolean got, boolean want) {
        due(name, got ? 1 : 0, want ? 1 : 0);
    }

    /** The very class, not one below it. */
    static void dueThrow(String name, Class<?> want, Call call) {
        made++;
        try {
            call.run();
        } catch (RuntimeException e) {
            if (e.getClass() != want) {
                tell(name + " threw " + e + ", due is " + want.getSimpleName());
            }
            return;
        }
        tell(name + " threw nothing, due is " + want.getSimpleName());
    }

    static void tell(String text) {
        wrong++;
        if (wrong <= MOST_TOLD) {
            System.out.println(within + text);
        }
    }

    static void end() {
        System.out.println(made + " checks, " + wrong + " wrong");
        if (wrong > 0) {
            System.exit(1);
        }
    }

    static int[] packed(String text) {
        return packed(text.getBytes(StandardCharsets.ISO_8859_1));
    }

    static int[] packed(byte[] bytes) {
        int rows = (bytes.length + 19) / 20;
        byte[] padded = Arrays.copyOf(bytes, rows * 20);
        Arrays.fill(padded, bytes.length, padded.length, (byte) ' ');
        int[] ints = new int[rows * 5];
        for (int i = 0; i < padded.length; i++) {
            ints[i / 4] = ints[i / 4] << 8 | padded[i] & 255;
        }
        return ints;
    }

    static int feed(GreatWheel x, String text) {
        int[] ints = packed(text);
        for (int i = 0; i < ints.length; i += 5) {
            x.feed(ints[i], ints[i + 1], ints[i + 2], ints[i + 3], ints[i + 4]);
        }
        return text.length();
    }

    static int wheel(GreatWheel x, String text) {
        return x.wheel(feed(x, text));
    }

    static int rule(GreatWheel x, String text) {
        return x.rule(feed(x, text));
    }

    static GreatWheel wheelOf(String text) {
        GreatWheel x = new GreatWheel();
        if (wheel(x, text) < 0) {
            tell("no wheel: " + text);
        }
        return x;
    }
}
