import java.lang.reflect.InvocationTargetException;
import java.lang.reflect.Method;
import java.lang.reflect.Modifier;
import java.util.ArrayList;
import java.util.Comparator;
import java.util.List;
import java.util.Random;

/** Any arguments in any state: only what the face declares is thrown, and a call that throws changes nothing. */
public final class WildCallsTest {
    private static final int RUNS = 120;
    private static final int CALLS = 500;
    private static final int[] EDGES = {Integer.MIN_VALUE, Integer.MIN_VALUE + 1, -1000, -11, -10, -3, -2, -1, 0, 1, 2,
        3, 4, 5, 6, 7, 8, 9, 10, 11, 12, 13, 19, 20, 30, 31, 39, 40, 41, 59, 60, 61, 69, 70, 100, 101, 200, 480, 481,
        799, 800, 801, 999, 1000, 1200, 1201, 65535, 65536, 99999, 100000, Integer.MAX_VALUE - 1, Integer.MAX_VALUE};
    private static final String[] WHEELS = {"", "cars 4;party 1;", "cars 6;seats 6;party 9 9 fear;party 200 off 50;",
        "cars 12;seats 1;bears 1;party 7 rides 9;", "cars 8;bears 999;minutes 9;bag 99;party 50;party 60 fear;"};
    private static final String[] RULES = {"", "load;turn;", "again 9 round;", "empty;again 9 load if not top;hurry;"};

    private WildCallsTest() {
    }

    public static void main(String[] args) throws IllegalAccessException {
        List<Method> face = new ArrayList<>();
        for (Method m : GreatWheel.class.getDeclaredMethods()) {
            if (Modifier.isPublic(m.getModifiers())) {
                face.add(m);
            }
        }
        face.sort(Comparator.comparing(Method::getName));
        for (int seed = 1; seed <= RUNS; seed++) {
            run(face, new Random(seed), seed);
        }
        Checks.end();
    }

    private static void run(List<Method> face, Random random, int seed) throws IllegalAccessException {
        GreatWheel x = new GreatWheel();
        Checks.wheel(x, WHEELS[random.nextInt(WHEELS.length)]);
        Checks.rule(x, RULES[random.nextInt(RULES.length)]);
        for (int n = 0; n < CALLS; n++) {
            Method m = face.get(random.nextInt(face.size()));
            if (m.getName().equals("wheel") && random.nextInt(8) > 0) {
                continue;
            }
            call(x, m, random, "run " + seed + " call " + n + " " + m.getName());
        }
    }

    private static void call(GreatWheel x, Method m, Random random, String name) throws IllegalAccessException {
        Class<?>[] types = m.getParameterTypes();
        Object[] values = new Object[types.length];
        for (int i = 0; i < types.length; i++) {
            int value = random.nextInt(3) == 0 ? EDGES[random.nextInt(EDGES.length)] : random.nextInt(5);
            if (types[i] == long.class) {
                values[i] = random.nextInt(4) == 0 ? random.nextLong() : (long) value;
            } else {
                values[i] = value;
            }
        }
        long before = seen(x);
        try {
            m.invoke(x, values);
            Checks.due(name, 0, 0);
        } catch (InvocationTargetException e) {
            boolean told = false;
            for (Class<?> c : m.getExceptionTypes()) {
                told |= c == e.getCause().getClass();
            }
            Checks.due(name + " threw " + e.getCause(), told, true);
            Checks.due(name + " changed something", seen(x), before);
        }
    }

    /** All that can be asked without a change, folded into one number. */
    private static long seen(GreatWheel x) {
        long all = x.fault(0) * 31L + x.fault(1);
        for (int what = 0; what <= 12; what++) {
            all = all * 31 + x.count(what);
        }
        for (int v = 0; v < x.count(7); v++) {
            for (int what = 0; what < 5; what++) {
                all = all * 31 + x.visit(v, what);
            }
        }
        for (int car = 0; car < x.count(1); car++) {
            for (int what = 0; what < 6; what++) {
                all = all * 31 + x.car(car, what);
            }
        }
        for (int p = 0; p < x.count(6); p++) {
            for (int what = 0; what < 5; what++) {
                all = all * 31 + x.party(p, what);
            }
        }
        for (int step = 0; step < x.count(11); step++) {
            all = all * 31 + (x.so(step) ? 1 : 0);
        }
        for (int tray = 0; tray < 4; tray++) {
            all = all * 31 + trayOf(x, tray);
        }
        for (int image = 0; image < 3; image++) {
            all = all * 31 + alikeTo(x, image);
        }
        return all;
    }

    private static long trayOf(GreatWheel x, int tray) {
        try {
            return x.judge(tray, 0) * 31L + x.judge(tray, 1) + 100;
        } catch (IllegalStateException e) {
            return -1;
        }
    }

    private static long alikeTo(GreatWheel x, int image) {
        try {
            return x.alike(image);
        } catch (IllegalStateException e) {
            return -1;
        }
    }
}
