/** Promises 29 to 32: so, go, day, days. */
final class RuleSentences extends Sentences {
    private RuleSentences() {
    }

    // ---- 29

    @Says(in = "Promise 29", words = "Whether the TEST of a STEP is so now (without one it is).")
    static void p29_so() {
        GreatWheel x = wheelOf("cars 4;bears 1;party 200;", "turn;empty;load if late 3;turn if not late 3;round;");
        boolean[] early = {true, true, false, true, true};
        boolean[] late = {true, true, true, false, true};
        for (int step = 0; step < 5; step++) {
            due("so(" + step + ")", x.so(step), early[step]);
        }
        x.rest(3);
        for (int step = 0; step < 5; step++) {
            due("so(" + step + ") now", x.so(step), late[step]);
        }
        // Whether its act may be doesn't matter.
        seat(x, 0);
        due("turn may not be", x.may(0), 3);
        due("so(0)", x.so(0), true);
        Twins.dueUnchanged("so", y -> {
            y.so(0);
            y.so(2);
        });
    }

    @Says(in = "Promise 29", words = "NoSuchElementException: no such STEP.")
    static void p29_noSuchStep() {
        for (int steps = 0; steps <= 12; steps++) {
            GreatWheel x = wheelOf("", times(steps, "turn;"));
            for (int step : new int[] {-1, steps, 12, LEAST, GREATEST}) {
                dueThrow("so(" + step + ") of " + steps, NSEE, () -> x.so(step));
            }
            if (steps > 0) {
                due("the last", x.so(steps - 1), true);
            }
        }
    }

    // ---- 30

    @Says(in = "Promise 30", words = "GOING once by THE RULE: the STEP;")
    static void p30_go() {
        GreatWheel x = wheelOf("cars 4;seats 1;bears 999;minutes 3;party 5;", "empty;load;turn;");
        come(x, 0, 0);
        int[] steps = {1, 2, 1, 2, 2, 2, 0, 2};
        int[] minutes = {1, 4, 5, 8, 11, 14, 15, 18};
        for (int n = 0; n < steps.length; n++) {
            due("go " + n, x.go(), steps[n]);
            due("the minute behind go " + n, x.count(9), minutes[n]);
        }
        due("one is gone", x.visit(0, 2), -2);
        GreatWheel y = wheelOf("cars 4;", times(11, "load;") + "turn;");
        due("the twelfth", y.go(), 11);
    }

    @Says(in = "Promise 30", words = "NONE: a MINUTE went by.")
    static void p30_aMinuteWentBy() {
        GreatWheel x = wheelOf("cars 4;minutes 9;party 5;");
        due("without a step", x.go(), -1);
        due("a minute", x.count(9), 1);
        rule(x, "empty;load;turn if late 5;hurry if top;");
        come(x, 0);
        x.load(0);
        for (int minute = 3; minute <= 5; minute++) {
            due("none", x.go(), -1);
            due("a minute", x.count(9), minute);
            due("the foot", x.count(8), 0);
        }
        due("late 5", x.go(), 2);
        due("nine minutes", x.count(9), 14);
    }

    // ---- 31

    @Says(in = "Promise 31", words = "A DAY, what 0: the longest WAIT, 1: guests that were LOADED, 2: VISITS that wait at"
        + " its end, 3: TURNS, 4: all WAITS together, 5: the greatest LEAN (without its sign) behind any GOING.")
    static void p31_whats() {
        GreatWheel x = wheelOf("cars 4;seats 1;minutes 2;bears 999;party 10;party 20 20;", "empty;load;turn;");
        // 0: visit 0 is let in. 1: visit 1 (two guests), a turn. 3: visits 2 (came in 2) and 3; 2 is let in.
        // 4: visit 4 comes, a turn till 6.
        int[][] want = {
            {1, 1, 0, 0, 1, 0},
            {2, 1, 1, 1, 3, 1000},
            {2, 1, 1, 1, 3, 1000},
            {3, 2, 2, 1, 1 + 3 + 2 + 1, 1000},
            {5, 2, 3, 2, 1 + 5 + 2 + 3 + 2, 1000}};
        for (int minutes = 1; minutes <= 5; minutes++) {
            for (int what = 0; what < 6; what++) {
                due("day(7, " + minutes + ", 100, " + what + ")", x.day(7, minutes, 100, what),
                        want[minutes - 1][what]);
            }
        }
        int[] nobody = {0, 0, 0, 240, 0, 0};
        for (int what = 0; what < 6; what++) {
            due("nobody comes: " + what, x.day(7, 480, 0, what), nobody[what]);
        }
        // Who is let out was loaded: with rides 1 each, more are loaded than there are seats.
        GreatWheel z = wheelOf("cars 4;seats 1;minutes 1;bears 999;party 10;", "empty;load;turn;");
        due("guests that were loaded", z.day(1, 60, 100, 1) > 4, true);
        Twins.dueUnchanged("day", y -> {
            y.day(1, 480, 50, 0);
            y.day(2, 100, 100, 5);
        });
    }

    @Says(in = "Promise 31", words = "5: the greatest LEAN (without its sign) behind any GOING.")
    static void p31_theGreatestLean() {
        GreatWheel x = wheelOf("cars 4;minutes 1;bears 999;bag 10;", "turn;");
        x.bag(1, 3);
        // Ahead of the first going it leans by 30 with 0 at the foot; behind it it stands upright.
        due("ahead of any is none", x.day(1, 1, 0, 5), 0);
        due("with minus", x.day(1, 2, 0, 5), 3000);
        x.bag(1, 0);
        x.bag(0, 4);
        due("with minus", x.day(1, 1, 0, 5), 4000);
        x.bag(0, 0);
        x.bag(2, 4);
        due("with plus", x.day(1, 1, 0, 5), 4000);
        due("the greatest", x.day(1, 2, 0, 5), 4000);
        // Between the turns of one going it doesn't matter.
        rule(x, "hurry;");
        due("behind a going alone", x.day(1, 1, 0, 5), 0);
        rule(x, "turn if late 9;");
        x.bag(1, 2);
        due("a minute that goes by is a going", x.day(1, 1, 0, 5), 2000);
    }

    @Says(in = "Promise 31", words = "IllegalArgumentException: MINUTES, come, another what.")
    static void p31_throws() {
        GreatWheel x = wheelOf("party 5;", "load;turn;");
        for (int minutes : new int[] {-1, 0, 481, 482, LEAST, GREATEST}) {
            dueThrow("day(1, " + minutes + ", 50, 0)", IAE, () -> x.day(1, minutes, 50, 0));
        }
        for (int come : new int[] {-1, 101, LEAST, GREATEST}) {
            dueThrow("day(1, 5, " + come + ", 0)", IAE, () -> x.day(1, 5, come, 0));
        }
        for (int what : new int[] {-1, 6, 7, LEAST, GREATEST}) {
            dueThrow("day(1, 5, 50, " + what + ")", IAE, () -> x.day(1, 5, 50, what));
        }
        due("the least", x.day(LEAST, 1, 0, 0), 0);
        due("the most", x.day(GREATEST, 480, 100, 2) >= 0, true);
    }

    // ---- 32

    @Says(in = "Promise 32", words = "Over DAYS by SEEDS 1 to n (1 to 30): the longest WAIT of all (what 0), the SEED of"
        + " the first that has it (1), guests LOADED together (2).")
    static void p32_days() {
        GreatWheel x = wheelOf("cars 6;seats 2;minutes 3;bears 150;party 60;party 40 30 fear;party 70 rides 2;",
                "empty;load if room 1 and not leans 90;turn;");
        int longest = -1;
        int first = -1;
        int loaded = 0;
        boolean later = false;
        boolean alike = false;
        for (int n = 1; n <= 30; n++) {
            int wait = x.day(n, 90, 30, 0);
            loaded += x.day(n, 90, 30, 1);
            alike |= wait == longest;
            later |= n > 1 && wait > longest;
            if (wait > longest) {
                longest = wait;
                first = n;
            }
            due("days(" + n + ", .., 0)", x.days(n, 90, 30, 0), longest);
            due("days(" + n + ", .., 1)", x.days(n, 90, 30, 1), first);
            due("days(" + n + ", .., 2)", x.days(n, 90, 30, 2), loaded);
        }
        due("the test has a later day with a longer wait", later, true);
        due("nobody ever came: the longest", x.days(30, 480, 0, 0), 0);
        due("nobody ever came: the first has it", x.days(30, 480, 0, 1), 1);
        due("nobody ever came: none loaded", x.days(30, 480, 0, 2), 0);
        // All days are alike when somebody comes each minute: the first of them has it.
        due("the first of like ones", x.days(30, 20, 100, 1), 1);
        due("it waited", x.days(30, 20, 100, 0) > 0, true);
        Twins.dueUnchanged("days", y -> y.days(5, 100, 50, 0));
    }

    @Says(in = "Promise 32", words = "IllegalArgumentException: n, MINUTES, come, another what.")
    static void p32_throws() {
        GreatWheel x = wheelOf("party 5;", "load;turn;");
        for (int n : new int[] {-1, 0, 31, 32, LEAST, GREATEST}) {
            dueThrow("days(" + n + ", 5, 50, 0)", IAE, () -> x.days(n, 5, 50, 0));
        }
        for (int minutes : new int[] {-1, 0, 481, LEAST, GREATEST}) {
            dueThrow("days(1, " + minutes + ", 50, 0)", IAE, () -> x.days(1, minutes, 50, 0));
        }
        for (int come : new int[] {-1, 101, LEAST, GREATEST}) {
            dueThrow("days(1, 5, " + come + ", 0)", IAE, () -> x.days(1, 5, come, 0));
        }
        for (int what : new int[] {-1, 3, 4, LEAST, GREATEST}) {
            dueThrow("days(1, 5, 50, " + what + ")", IAE, () -> x.days(1, 5, 50, what));
        }
        due("the least", x.days(1, 1, 0, 0), 0);
        due("the most", x.days(30, 480, 100, 1), 1);
    }
}
