import java.util.Random;

/** Crowded wheels close to their bounds: what is sought (promises 24 to 28, 15) beside the plain Model. */
public final class SoughtRunsTest {
    private static final int RUNS = 200;
    private static final int MOST_WAYS = 50000;

    private final Random random;
    private final GreatWheel x = new GreatWheel();
    private final Model m = new Model();
    private final StringBuilder story = new StringBuilder();
    private boolean wrong = false;

    private SoughtRunsTest(long seed) {
        random = new Random(seed);
    }

    public static void main(String[] args) {
        int runs = args.length > 1 ? Integer.parseInt(args[1]) : RUNS;
        for (int seed = 1; seed <= runs; seed++) {
            new SoughtRunsTest(seed).run(seed);
        }
        Checks.end();
    }

    private void run(int seed) {
        build();
        crowd();
        for (int n = from(0, 4); n > 0; n--) {
            come();
        }
        for (int round = 0; round < 3 && !wrong; round++) {
            askAll();
            strewBags();
        }
        likeWheels();
        if (wrong) {
            System.out.println("run " + seed + ":\n" + story);
        }
    }

    private int from(int least, int most) {
        return least + random.nextInt(most - least + 1);
    }

    private void due(String call, int got, int want) {
        story.append("  ").append(call).append(" -> ").append(want).append('\n');
        Checks.due(call, got, want);
        if (got != want) {
            story.append("  but ").append(got).append('\n');
            wrong = true;
        }
    }

    private void build() {
        StringBuilder b = new StringBuilder();
        b.append("cars ").append(new int[] {4, 6, 8, 12}[from(0, 3)]);
        b.append(";seats ").append(from(1, 5)).append(";bears ").append(from(30, 220));
        b.append(";bag ").append(from(5, 60)).append(";");
        boolean fearful = from(0, 2) > 0;
        for (int p = from(1, 6); p > 0; p--) {
            b.append("party");
            for (int g = from(1, 3); g > 0; g--) {
                b.append(' ').append(from(0, 1) == 0 ? 50 : from(10, 120));
            }
            b.append(" off ").append(from(0, 20)).append(fearful && from(0, 3) == 0 ? " fear;" : ";");
        }
        story.append(b).append('\n');
        int[] ints = Checks.packed(b.toString());
        for (int i = 0; i < ints.length; i += 5) {
            m.feed(ints[i], ints[i + 1], ints[i + 2], ints[i + 3], ints[i + 4]);
        }
        due("wheel", Checks.wheel(x, b.toString()), m.wheel(b.length()));
    }

    private void come() {
        int party = from(0, m.state.set.parties.size() - 1);
        due("come(" + party + ")", x.come(party), m.come(party));
    }

    private void crowd() {
        int stops = from(1, 2 * m.state.set.cars);
        for (int stop = 0; stop < stops; stop++) {
            for (int n = from(0, 2); n > 0; n--) {
                come();
                int v = m.state.visits.size() - 1;
                due("load(" + v + ")", v < 0 ? 1 : x.load(v), m.load(v));
            }
            due("turn()", x.turn(), m.turn());
        }
    }

    private void strewBags() {
        for (int n = from(1, 4); n > 0; n--) {
            int car = from(0, m.state.set.cars - 1);
            int many = from(0, 4);
            due("bag(" + car + ", " + many + ")", x.bag(car, many), m.bag(car, many));
        }
    }

    private void askAll() {
        int cars = m.state.set.cars;
        due("sure()", x.sure(), m.sure());
        for (int what = -1; what <= cars; what++) {
            due("empties(" + what + ")", x.empties(what), m.empties(what));
        }
        int w = from(0, 120);
        for (int what = -1; what < cars; what++) {
            due("bags(" + what + ")", x.bags(what), m.bags(what));
            due("ballast(" + w + ", " + what + ")", x.ballast(w, what), m.ballast(w, what));
        }
        for (int t = 0; t <= 7; t++) {
            int ways = 1;
            for (int n = Math.min(6, m.state.waiting().size()); n > 0; n--) {
                ways *= t + 2;
            }
            if (ways <= MOST_WAYS) {
                int[] due = m.fillAll(t);
                due("fills(" + t + ", -1)", x.fills(t, -1), due[7]);
                due("fills(" + t + ", -2)", x.fills(t, -2), due[8]);
                for (int i = 0; i < 6; i++) {
                    due("fills(" + t + ", " + i + ")", x.fills(t, i), due[i]);
                }
            }
        }
    }

    /** Rows of bags turned, mirrored, or changed in one place. */
    private void likeWheels() {
        String empty = "cars " + new int[] {4, 6, 8, 12}[from(0, 3)] + ";";
        int[] ints = Checks.packed(empty);
        m.feed(ints[0], ints[1], ints[2], ints[3], ints[4]);
        due("wheel", Checks.wheel(x, empty), m.wheel(empty.length()));
        int cars = m.state.set.cars;
        int[] row = new int[cars];
        for (int car = 0; car < cars; car++) {
            row[car] = from(0, 3);
            due("bag", x.bag(car, row[car]), m.bag(car, row[car]));
        }
        x.image(0);
        m.image(0);
        for (int n = 0; n < 4; n++) {
            int by = from(0, cars - 1);
            int way = from(0, 1) == 0 ? 1 : -1;
            for (int car = 0; car < cars; car++) {
                int many = row[Math.floorMod(by + way * car, cars)];
                due("bag", x.bag(car, many), m.bag(car, many));
            }
            due("alike by " + by + " way " + way, x.alike(0), m.alike(0));
            int car = from(0, cars - 1);
            int many = from(0, 3);
            due("bag", x.bag(car, many), m.bag(car, many));
            due("alike, one changed", x.alike(0), m.alike(0));
        }
    }
}
