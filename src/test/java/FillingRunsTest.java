import java.util.Random;

/** Many small fillings (promise 25) hemmed in by seats, lean and fear, beside the plain Model. */
public final class FillingRunsTest {
    private static final int RUNS = 2500;
    private static final int MOST_WAYS = 5000;

    private FillingRunsTest() {
    }

    public static void main(String[] args) {
        int runs = args.length > 1 ? Integer.parseInt(args[1]) : RUNS;
        for (int seed = 1; seed <= runs; seed++) {
            run(new Random(seed), seed);
        }
        Checks.end();
    }

    private static int from(Random random, int least, int most) {
        return least + random.nextInt(most - least + 1);
    }

    private static void run(Random random, int seed) {
        int parties = from(random, 2, 6);
        StringBuilder b = new StringBuilder();
        int cars = new int[] {4, 4, 6, 8, 12}[from(random, 0, 4)];
        b.append("cars ").append(cars).append(";seats ").append(from(random, 1, 3));
        b.append(";bears ").append(from(random, 20, 120)).append(";bag 10;");
        for (int p = 0; p < parties; p++) {
            b.append("party");
            for (int g = from(random, 1, 2); g > 0; g--) {
                b.append(' ').append(from(random, 5, 100));
            }
            b.append(from(random, 0, 4) == 0 ? " fear;" : ";");
        }
        GreatWheel x = Checks.wheelOf(b.toString());
        Model m = new Model();
        int[] ints = Checks.packed(b.toString());
        for (int i = 0; i < ints.length; i += 5) {
            m.feed(ints[i], ints[i + 1], ints[i + 2], ints[i + 3], ints[i + 4]);
        }
        m.wheel(b.length());
        for (int p = 0; p < parties; p++) {
            x.come(p);
            m.come(p);
        }
        for (int n = from(random, 0, 3); n > 0; n--) {
            int car = from(random, 0, cars - 1);
            int many = from(random, 1, 9);
            x.bag(car, many);
            m.bag(car, many);
        }
        if (from(random, 0, 2) == 0) {
            x.load(0);
            m.load(0);
            x.turn();
            m.turn();
        }
        for (int t = 0; t <= 7; t++) {
            compare(x, m, t, "run " + seed + " t " + t + " " + b);
        }
    }

    private static void compare(GreatWheel x, Model m, int t, String name) {
        int ways = 1;
        for (int n = m.state.waiting().size(); n > 0; n--) {
            ways *= t + 2;
        }
        if (ways > MOST_WAYS) {
            return;
        }
        int[] want = m.fillAll(t);
        Checks.due(name + " guests", x.fills(t, -1), want[7]);
        Checks.due(name + " turns", x.fills(t, -2), want[8]);
        for (int i = 0; i < 6; i++) {
            Checks.due(name + " visit " + i, x.fills(t, i), want[i]);
        }
    }
}
