import java.util.Random;

/** Random runs of calls, the same each time, answered by GreatWheel and by the plain Model. */
public final class RandomRunsTest {
    private static final int RUNS = 1500;
    private static final int CALLS = 300;

    private static final String[] WORDS = {"cars", "seats", "bears", "minutes", "bag", "party", "off", "rides",
        "fear", "again", "empty", "load", "turn", "hurry", "round", "if", "or", "and", "not", "(", ")", "done",
        "room", "waits", "leans", "late", "long", "full", "top", ";", "x", "carsx", "A", "0", "1", "7", "12",
        "201", "999", "1000", "\n", "\t", "\u00e9", "loads"};

    private final Random random;
    private final GreatWheel x = new GreatWheel();
    private final Model m = new Model();
    private final StringBuilder story = new StringBuilder();
    private boolean wrong = false;

    private RandomRunsTest(long seed) {
        random = new Random(seed);
    }

    interface Answer {
        long get();
    }

    public static void main(String[] args) {
        int runs = args.length > 1 ? Integer.parseInt(args[1]) : RUNS;
        for (int seed = 1; seed <= runs; seed++) {
            new RandomRunsTest(seed).run(seed);
        }
        Checks.end();
    }

    private void run(int seed) {
        for (int n = 0; n < CALLS && !wrong; n++) {
            step();
        }
        if (wrong) {
            System.out.println("run " + seed + ":\n" + story);
        }
    }

    private void both(String call, Answer mine, Answer due) {
        String got = outcome(mine);
        String want = outcome(due);
        story.append("  ").append(call).append(" -> ").append(want).append('\n');
        Checks.due(call, got.equals(want), true);
        if (!got.equals(want)) {
            story.append("  but ").append(got).append('\n');
            wrong = true;
        }
    }

    private static String outcome(Answer a) {
        try {
            return Long.toString(a.get());
        } catch (RuntimeException e) {
            return e.getClass().getSimpleName();
        }
    }

    private int upTo(int n) {
        return random.nextInt(n + 1);
    }

    private int from(int least, int most) {
        return least + random.nextInt(most - least + 1);
    }

    private boolean oneIn(int n) {
        return random.nextInt(n) == 0;
    }

    private String plainWheel() {
        StringBuilder b = new StringBuilder();
        int cars = new int[] {4, 6, 8, 12}[upTo(3)];
        b.append("cars ").append(cars).append(';');
        if (!oneIn(4)) {
            b.append("seats ").append(from(1, 6)).append(';');
        }
        if (!oneIn(4)) {
            b.append("bears ").append(oneIn(2) ? from(40, 300) : from(1, 999)).append(';');
        }
        if (oneIn(2)) {
            b.append("minutes ").append(from(1, 9)).append(';');
        }
        if (oneIn(2)) {
            b.append("bag ").append(from(1, 99)).append(";\n");
        }
        int parties = oneIn(8) ? 12 : from(0, 5);
        for (int p = 0; p < parties; p++) {
            b.append("party");
            int guests = oneIn(3) ? from(1, 6) : from(1, 2);
            for (int g = 0; g < guests; g++) {
                b.append(' ').append(oneIn(5) ? from(1, 200) : from(20, 90));
            }
            b.append(oneIn(2) ? " off " + upTo(oneIn(2) ? 50 : 9) : "");
            b.append(oneIn(2) ? " rides " + from(1, oneIn(2) ? 9 : 2) : "");
            b.append(oneIn(4) ? " fear;" : ";");
        }
        return b.toString();
    }

    private String fact(int deep) {
        if (deep < 4 && oneIn(4)) {
            return "not " + fact(deep + 1);
        }
        if (deep < 4 && oneIn(4)) {
            return "(" + test(deep + 1) + ")";
        }
        switch (upTo(7)) {
            case 0:
                return "done " + upTo(3);
            case 1:
                return "room " + upTo(6);
            case 2:
                return "waits " + upTo(6);
            case 3:
                return "leans " + upTo(150);
            case 4:
                return "late " + upTo(200);
            case 5:
                return "long " + upTo(30);
            case 6:
                return "full " + upTo(12);
            default:
                return "top";
        }
    }

    private String test(int deep) {
        StringBuilder b = new StringBuilder(fact(deep));
        while (oneIn(3)) {
            b.append(oneIn(2) ? " or " : " and ").append(fact(deep));
        }
        return b.toString();
    }

    private String plainRule() {
        StringBuilder b = new StringBuilder();
        int steps = from(0, 6);
        for (int s = 0; s < steps; s++) {
            b.append(oneIn(3) ? "again " + from(1, 9) + " " : "");
            b.append(new String[] {"empty", "load", "turn", "hurry", "round"}[oneIn(3) ? upTo(4) : upTo(2)]);
            b.append(oneIn(3) ? ";" : " if " + test(0) + ";");
        }
        return b.toString();
    }

    private String spoilt(String text) {
        StringBuilder b = new StringBuilder(text);
        for (int n = from(1, 3); n > 0; n--) {
            int at = upTo(b.length());
            if (oneIn(3)) {
                b.delete(at, Math.min(b.length(), at + from(1, 4)));
            } else {
                String word = WORDS[upTo(WORDS.length - 1)];
                b.insert(at, oneIn(3) ? word : " " + word + " ");
            }
        }
        return b.toString();
    }

    private String wild() {
        StringBuilder b = new StringBuilder();
        for (int n = from(0, 20); n > 0; n--) {
            b.append(WORDS[upTo(WORDS.length - 1)]).append(oneIn(3) ? "" : " ");
        }
        return b.toString();
    }

    private void text(boolean wheel) {
        String plain = wheel ? plainWheel() : plainRule();
        String text = oneIn(5) ? spoilt(plain) : oneIn(12) ? wild() : plain;
        int[] ints = Checks.packed(text);
        for (int i = 0; i + 4 < ints.length; i += 5) {
            int k = i;
            both("feed", () -> x.feed(ints[k], ints[k + 1], ints[k + 2], ints[k + 3], ints[k + 4]),
                    () -> m.feed(ints[k], ints[k + 1], ints[k + 2], ints[k + 3], ints[k + 4]));
        }
        int n = oneIn(15) ? from(-1, text.length() + 30) : Math.min(text.length(), m.fed);
        story.append("  \"").append(text).append("\"\n");
        if (wheel) {
            both("wheel(" + n + ")", () -> x.wheel(n), () -> m.wheel(n));
        } else {
            both("rule(" + n + ")", () -> x.rule(n), () -> m.rule(n));
        }
        both("fault(0)", () -> x.fault(0), () -> m.fault(0));
        both("fault(1)", () -> x.fault(1), () -> m.fault(1));
        both("fault(2)", () -> x.fault(2), () -> m.fault(2));
    }

    private void step() {
        if (m.state.set.parties.isEmpty() ? oneIn(3) : oneIn(60)) {
            text(true);
        } else if (m.state.steps.isEmpty() ? oneIn(15) : oneIn(60)) {
            text(false);
        } else {
            int kind = upTo(9);
            if (kind < 3) {
                act();
            } else if (kind < 6) {
                ask();
            } else if (kind < 7) {
                seek();
            } else if (kind < 8) {
                ruleCall();
            } else {
                trayCall();
            }
        }
    }

    private void act() {
        int v = from(-1, m.state.visits.size());
        int waits = m.waits(0);
        int w = waits == -1 || oneIn(3) ? v : waits;
        int car = from(oneIn(10) ? -1 : 0, m.state.set.cars - (oneIn(10) ? 0 : 1));
        int party = from(oneIn(10) ? -1 : 0, Math.max(0, m.state.set.parties.size() - (oneIn(10) ? 0 : 1)));
        int minutes = oneIn(6) ? from(-1, 1000) : upTo(5);
        int n = oneIn(8) ? from(-1, 10) : upTo(3);
        switch (upTo(8)) {
            case 0:
            case 1:
                both("come(" + party + ")", () -> x.come(party), () -> m.come(party));
                break;
            case 2:
            case 3:
                both("load(" + w + ")", () -> x.load(w), () -> m.load(w));
                break;
            case 4:
                both("empty()", () -> x.empty(), () -> m.empty());
                break;
            case 5:
            case 6:
                both("turn()", () -> x.turn(), () -> m.turn());
                break;
            case 7:
                both("rest(" + minutes + ")", () -> x.rest(minutes), () -> m.rest(minutes));
                break;
            default:
                both("bag(" + car + ", " + n + ")", () -> x.bag(car, n), () -> m.bag(car, n));
        }
    }

    private void ask() {
        int what = oneIn(10) ? from(-3, 8) : upTo(5);
        int party = from(-1, 12);
        int v = from(-1, m.state.visits.size());
        int car = from(-1, m.state.set.cars);
        int act = oneIn(3) ? from(-3, 80) : new int[] {0, 1, 10 + Math.max(0, v)}[upTo(2)];
        int counted = from(-1, 13);
        switch (upTo(11)) {
            case 0:
                both("party(" + party + ", " + what + ")", () -> x.party(party, what), () -> m.party(party, what));
                break;
            case 1:
                both("weight(" + party + ", " + what + ")", () -> x.weight(party, what), () -> m.weight(party, what));
                break;
            case 2:
                both("visit(" + v + ", " + what + ")", () -> x.visit(v, what), () -> m.visit(v, what));
                break;
            case 3:
                both("waits(" + what + ")", () -> x.waits(what), () -> m.waits(what));
                break;
            case 4:
                both("car(" + car + ", " + what + ")", () -> x.car(car, what), () -> m.car(car, what));
                break;
            case 5:
                both("lean(" + car + ")", () -> x.lean(car), () -> m.lean(car));
                break;
            case 6:
                both("worst(" + car + ")", () -> x.worst(car), () -> m.worst(car));
                break;
            case 7:
                both("sure()", () -> x.sure(), () -> m.sure());
                break;
            case 8:
                both("top()", () -> x.top() ? 1 : 0, () -> m.top() ? 1 : 0);
                break;
            case 9:
                both("may(" + act + ")", () -> x.may(act), () -> m.may(act));
                break;
            default:
                both("count(" + counted + ")", () -> x.count(counted), () -> m.count(counted));
        }
    }

    private void seek() {
        int what = from(oneIn(20) ? -3 : -1, 7);
        int t = oneIn(20) ? from(-1, 8) : upTo(3);
        int place = oneIn(20) ? from(-3, 6) : from(-2, 5);
        int image = from(oneIn(10) ? -1 : 0, oneIn(10) ? 3 : 2);
        int w = oneIn(10) ? from(-1, 1201) : upTo(150);
        int car = from(oneIn(10) ? -2 : -1, m.state.set.cars - (oneIn(10) ? 0 : 1));
        switch (upTo(5)) {
            case 0:
                both("empties(" + what + ")", () -> x.empties(what), () -> m.empties(what));
                break;
            case 1:
            case 2:
                both("fills(" + t + ", " + place + ")", () -> x.fills(t, place), () -> m.fills(t, place));
                break;
            case 3:
                both("bags(" + car + ")", () -> x.bags(car), () -> m.bags(car));
                break;
            case 4:
                both("ballast(" + w + ", " + car + ")", () -> x.ballast(w, car), () -> m.ballast(w, car));
                break;
            default:
                both("alike(" + image + ")", () -> x.alike(image), () -> m.alike(image));
        }
    }

    private void ruleCall() {
        int step = from(-1, m.state.steps.size());
        int seed = oneIn(2) ? upTo(100) : random.nextInt();
        int minutes = oneIn(20) ? from(-1, 481) : from(1, 60);
        int come = oneIn(20) ? from(-1, 101) : upTo(100);
        int what = from(oneIn(10) ? -1 : 0, oneIn(10) ? 6 : 5);
        int n = oneIn(20) ? from(-1, 31) : from(1, 3);
        int daysWhat = from(oneIn(10) ? -1 : 0, oneIn(10) ? 3 : 2);
        switch (upTo(5)) {
            case 0:
                both("so(" + step + ")", () -> x.so(step) ? 1 : 0, () -> m.so(step) ? 1 : 0);
                break;
            case 1:
                both("day(" + seed + ", " + minutes + ", " + come + ", " + what + ")",
                        () -> x.day(seed, minutes, come, what), () -> m.day(seed, minutes, come, what));
                break;
            case 2:
                both("days(" + n + ", " + minutes + ", " + come + ", " + daysWhat + ")",
                        () -> x.days(n, minutes, come, daysWhat), () -> m.days(n, minutes, come, daysWhat));
                break;
            default:
                both("go()", () -> x.go(), () -> m.go());
        }
    }

    private void trayCall() {
        int tray = from(oneIn(10) ? -1 : 0, oneIn(10) ? 4 : 1);
        int sort = from(oneIn(10) ? -1 : 0, oneIn(10) ? 4 : 3);
        int many = oneIn(10) ? from(-1, 41) : upTo(8);
        int place = oneIn(10) ? from(-1, 41) : upTo(8);
        int v = from(0, Math.max(1, m.state.visits.size()));
        long[] values = {0, 0, 1, 10 + v, 10 + v, 10 + v, random.nextLong(), random.nextInt(), 256, 65536 + 10};
        long value = values[upTo(oneIn(4) ? 9 : 5)];
        int what = from(oneIn(10) ? -1 : 0, oneIn(10) ? 4 : 3);
        int image = from(oneIn(10) ? -1 : 0, oneIn(10) ? 3 : 2);
        switch (upTo(9)) {
            case 0:
                both("tray(" + tray + ", " + sort + ", " + many + ")", () -> told(() -> x.tray(tray, sort, many)),
                        () -> told(() -> m.tray(tray, sort, many)));
                break;
            case 1:
            case 2:
            case 3:
            case 4:
                both("write(" + tray + ", " + place + ", " + value + ")", () -> x.write(tray, place, value),
                        () -> m.write(tray, place, value));
                break;
            case 5:
            case 6:
                both("judge(" + tray + ", " + what + ")", () -> x.judge(tray, what), () -> m.judge(tray, what));
                break;
            case 7:
                both("perform(" + tray + ")", () -> x.perform(tray), () -> m.perform(tray));
                break;
            case 8:
                both("image(" + image + ")", () -> told(() -> x.image(image)), () -> told(() -> m.image(image)));
                break;
            default:
                both("restore(" + image + ")", () -> told(() -> x.restore(image)), () -> told(() -> m.restore(image)));
        }
    }

    private static long told(Checks.Call call) {
        call.run();
        return 0;
    }
}
