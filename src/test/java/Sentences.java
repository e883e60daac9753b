import java.lang.annotation.Retention;
import java.lang.annotation.RetentionPolicy;
import java.nio.charset.StandardCharsets;
import java.util.NoSuchElementException;

/** What the tests of single sentences share: see SentencesTest. */
abstract class Sentences {
    static final Class<?> IAE = IllegalArgumentException.class;
    static final Class<?> ISE = IllegalStateException.class;
    static final Class<?> NSEE = NoSuchElementException.class;
    static final Class<?> IOOBE = IndexOutOfBoundsException.class;
    static final int LEAST = Integer.MIN_VALUE;
    static final int GREATEST = Integer.MAX_VALUE;

    /** A test of the document's words, in a section of it: "Terms 2" is behind "==== 2.". */
    @Retention(RetentionPolicy.RUNTIME)
    @interface Says {
        String in();

        String[] words();
    }

    static void due(String call, long got, long want) {
        Checks.due(call, got, want);
    }

    static void due(String call, boolean got, boolean want) {
        Checks.due(call, got, want);
    }

    static void dueThrow(String call, Class<?> want, Checks.Call made) {
        Checks.dueThrow(call, want, made);
    }

    /** Behind the text come bytes that are no token, so that reading beyond its end is seen. */
    static int feed(GreatWheel x, String text) {
        byte[] bytes = text.getBytes(StandardCharsets.ISO_8859_1);
        for (int from = 0; from < bytes.length; from += 20) {
            int[] ints = new int[5];
            for (int i = 0; i < 20; i++) {
                int one = from + i < bytes.length ? bytes[from + i] & 255 : '?';
                ints[i / 4] = ints[i / 4] << 8 | one;
            }
            x.feed(ints[0], ints[1], ints[2], ints[3], ints[4]);
        }
        return bytes.length;
    }

    static int wheel(GreatWheel x, String text) {
        return x.wheel(feed(x, text));
    }

    static int rule(GreatWheel x, String text) {
        return x.rule(feed(x, text));
    }

    static GreatWheel wheelOf(String text) {
        GreatWheel x = new GreatWheel();
        due("no fault in the test's own " + text, wheel(x, text) >= 0, true);
        return x;
    }

    static GreatWheel wheelOf(String text, String rule) {
        GreatWheel x = wheelOf(text);
        due("no fault in the test's own " + rule, rule(x, rule) >= 0, true);
        return x;
    }

    static GreatWheel dueWheel(String text, int lines) {
        GreatWheel x = new GreatWheel();
        due("wheel of \"" + text + "\"", wheel(x, text), lines);
        due("fault(0) of \"" + text + "\"", x.fault(0), 0);
        due("fault(1) of \"" + text + "\"", x.fault(1), -1);
        return x;
    }

    static void dueWheelFault(String text, int kind, int place) {
        GreatWheel x = new GreatWheel();
        due("wheel of \"" + text + "\"", wheel(x, text), -10 - kind);
        due("fault(0) of \"" + text + "\"", x.fault(0), kind);
        due("fault(1) of \"" + text + "\"", x.fault(1), place);
    }

    static GreatWheel dueRule(String text, int steps) {
        GreatWheel x = new GreatWheel();
        due("rule of \"" + text + "\"", rule(x, text), steps);
        due("fault(0) of \"" + text + "\"", x.fault(0), 0);
        due("fault(1) of \"" + text + "\"", x.fault(1), -1);
        return x;
    }

    static void dueRuleFault(String text, int kind, int place) {
        GreatWheel x = new GreatWheel();
        due("rule of \"" + text + "\"", rule(x, text), -10 - kind);
        due("fault(0) of \"" + text + "\"", x.fault(0), kind);
        due("fault(1) of \"" + text + "\"", x.fault(1), place);
    }

    static String times(int many, String text) {
        return text.repeat(many);
    }

    static void come(GreatWheel x, int... parties) {
        for (int party : parties) {
            x.come(party);
        }
    }

    /** Parties come, one behind the other, and are let into the car at the foot. */
    static void seat(GreatWheel x, int... parties) {
        for (int party : parties) {
            due("the test's own load", x.load(x.come(party)), 0);
        }
    }

    static void turn(GreatWheel x, int many) {
        for (int n = 0; n < many; n++) {
            due("the test's own turn", x.turn(), 0);
        }
    }

    static void put(GreatWheel x, int tray, long... numbers) {
        x.tray(tray, 3, numbers.length);
        for (int i = 0; i < numbers.length; i++) {
            x.write(tray, i, numbers[i]);
        }
    }
}
