import java.util.NoSuchElementException;

/** Promises 29 to 32: so, go, day, days. */
public final class RuleTest {
    private static final Class<?> IAE = IllegalArgumentException.class;
    private static final Class<?> NSEE = NoSuchElementException.class;

    public static void main(String[] args) {
        soThrows();
        soFacts();
        soWords();
        goChooses();
        goActs();
        goAgain();
        goRound();
        dayByHand();
        dayDraws();
        dayStarts();
        dayBounds();
        days();
        Checks.end();
    }

    private static void soThrows() {
        GreatWheel x = new GreatWheel();
        Checks.dueThrow("29: no step", NSEE, () -> x.so(0));
        Checks.rule(x, "turn;load if top;");
        Checks.due("29: without a test", x.so(0), true);
        Checks.due("29: with one", x.so(1), false);
        Checks.dueThrow("29: step", NSEE, () -> x.so(2));
        Checks.dueThrow("29: step", NSEE, () -> x.so(-1));
        Checks.dueThrow("29: step", NSEE, () -> x.so(Integer.MIN_VALUE));
    }

    private static void dueSo(GreatWheel x, String test, boolean want) {
        Checks.due("29: rule of " + test, Checks.rule(x, "turn if " + test + ";"), 1);
        Checks.due("29: " + test, x.so(0), want);
    }

    /** Each fact just at its number, and beyond it. */
    private static void dueEdge(GreatWheel x, String fact, int n) {
        dueSo(x, fact + " 0", true);
        dueSo(x, fact + " " + n, true);
        dueSo(x, fact + " " + (n + 1), false);
        dueSo(x, fact + " 999", false);
    }

    private static void soFacts() {
        GreatWheel x = Checks.wheelOf("cars 4;seats 5;bears 999;minutes 2;bag 1;party 30;party 20 20;party 9 fear;");
        dueSo(x, "long 0", false);
        dueSo(x, "waits 0", true);
        dueEdge(x, "room", 5);
        x.come(0);
        x.come(1);
        x.rest(3);
        x.come(2);
        dueEdge(x, "waits", 3);
        dueEdge(x, "long", 3);
        dueEdge(x, "late", 3);
        dueEdge(x, "done", 0);
        dueEdge(x, "full", 0);
        x.load(0);
        dueEdge(x, "long", 4);
        dueEdge(x, "waits", 2);
        x.load(1);
        dueEdge(x, "long", 2);
        dueEdge(x, "full", 3);
        dueEdge(x, "room", 2);
        dueEdge(x, "leans", 0);
        dueSo(x, "top", false);
        x.load(2);
        dueSo(x, "long 0", false);
        x.turn();
        dueEdge(x, "room", 5);
        dueEdge(x, "leans", 79);
        x.bag(1, 9);
        dueEdge(x, "leans", 79);
        x.bag(2, 1);
        dueEdge(x, "leans", 78);
        x.turn();
        dueSo(x, "top", true);
        x.turn();
        x.turn();
        dueEdge(x, "done", 3);
        dueEdge(x, "full", 4);
        dueEdge(x, "late", 14);
        GreatWheel y = Checks.wheelOf("cars 4;bears 999;seats 6;party 199 199 199;");
        y.load(y.come(0));
        y.turn();
        dueEdge(y, "leans", 597);
    }

    private static void soWords() {
        GreatWheel x = new GreatWheel();
        x.rest(5);
        dueSo(x, "late 6 and late 6 or late 5", true);
        dueSo(x, "late 5 or late 6 and late 6", true);
        dueSo(x, "(late 5 or late 6) and late 6", false);
        dueSo(x, "late 5 and late 5 and late 6", false);
        dueSo(x, "late 6 or late 6 or late 5", true);
        dueSo(x, "not late 6 and late 5", true);
        dueSo(x, "not (late 6 and late 5)", true);
        dueSo(x, "not late 5 or late 5", true);
        dueSo(x, "not (late 5 or late 5)", false);
        dueSo(x, "not not late 5", true);
        dueSo(x, "late 5 and not late 5", false);
        dueSo(x, "late 6 and (late 5 or late 5) or late 6", false);
        dueSo(x, "late 5 and (late 6 or late 5) and not (late 6 or late 6)", true);
        dueSo(x, "not not not not not not not not late 5", true);
        dueSo(x, "(late 5 and (late 5 and (late 5 and (late 5 and (late 5 and (late 5 and (late 5 and (late 5 and"
                + " late 5))))))))", true);
    }

    private static void goChooses() {
        GreatWheel x = Checks.wheelOf("cars 4;seats 1;bears 40;minutes 3;party 30;party 60;");
        Checks.due("30: no step", x.go(), -1);
        Checks.due("30: a minute", x.count(9), 1);
        Checks.rule(x, "empty;load;turn if late 3;");
        Checks.due("30: none may or is so", x.go(), -1);
        Checks.due("30: a minute", x.count(9), 2);
        x.come(1);
        Checks.due("30: load", x.go(), 1);
        Checks.due("30: a minute", x.count(9), 3);
        Checks.due("30: it would lean too far", x.go(), -1);
        Checks.due("30: a minute", x.count(9), 4);
        x.bag(2, 1);
        Checks.due("30: turn", x.go(), 2);
        Checks.due("30: minutes", x.count(9), 7);
        Checks.due("30: foot", x.count(8), 1);
        x.come(0);
        Checks.due("30: load", x.go(), 1);
        Checks.due("30: turn", x.go(), 2);
        Checks.due("30: turn", x.go(), 2);
        Checks.due("30: turn", x.go(), 2);
        Checks.due("30: foot", x.count(8), 0);
        Checks.due("30: empty ahead of turn", x.go(), 0);
        Checks.due("30: gone", x.visit(0, 2), -2);
    }

    private static void goActs() {
        // load: the first visit that may be, not the first that waits.
        GreatWheel x = Checks.wheelOf("cars 4;seats 2;bears 999;minutes 1;party 10 10 10;party 20 20;party 30;");
        Checks.rule(x, "load;hurry;");
        x.come(0);
        x.come(1);
        x.come(2);
        x.come(2);
        Checks.due("30: load", x.go(), 0);
        Checks.due("30: the second sits", x.visit(1, 2), 0);
        Checks.due("30: hurry", x.go(), 1);
        Checks.due("30: two turns", x.count(8), 2);
        Checks.due("30: minutes", x.count(9), 3);
        Checks.due("30: load", x.go(), 0);
        Checks.due("30: load", x.go(), 0);
        Checks.due("30: the third sits", x.visit(2, 2), 2);
        Checks.due("30: the fourth sits", x.visit(3, 2), 2);
        // hurry: the second turn may not be.
        GreatWheel y = Checks.wheelOf("cars 8;seats 2;bears 45;minutes 1;party 60;");
        Checks.rule(y, "hurry;");
        y.load(y.come(0));
        Checks.due("30: hurry", y.go(), 0);
        Checks.due("30: one turn alone", y.count(8), 1);
        Checks.due("30: hurry may not be", y.go(), -1);
        Checks.due("30: no turn", y.count(8), 1);
        Checks.due("30: a minute", y.count(9), 3);
        // load may not be at the top.
        GreatWheel z = Checks.wheelOf("cars 4;seats 2;bears 999;party 60 fear;");
        Checks.rule(z, "load;");
        z.load(z.come(0));
        z.turn();
        z.turn();
        z.come(0);
        Checks.due("30: top", z.go(), -1);
        z.turn();
        Checks.due("30: no more top", z.go(), 0);
    }

    private static void goAgain() {
        GreatWheel x = Checks.wheelOf("cars 4;seats 3;bears 999;minutes 1;party 10;");
        Checks.rule(x, "again 4 load if waits 5;again 6 turn if late 4;again 2 hurry;");
        for (int n = 0; n < 5; n++) {
            x.come(0);
        }
        // The test is asked once; then as long as it may be: three seats.
        Checks.due("30: again", x.go(), 0);
        Checks.due("30: three sit", x.count(10), 3);
        Checks.due("30: three minutes", x.count(9), 3);
        Checks.due("30: again", x.go(), 2);
        Checks.due("30: twice two turns", x.count(8), 0);
        Checks.due("30: seven minutes", x.count(9), 7);
        Checks.due("30: again", x.go(), 1);
        Checks.due("30: six turns", x.count(8), 2);
        Checks.due("30: rounds", x.visit(0, 3), 2);
        // empty is done once alone, as then nobody is done.
        Checks.rule(x, "again 9 empty;");
        x.turn();
        x.turn();
        int minute = x.count(9);
        Checks.due("30: again", x.go(), 0);
        Checks.due("30: one minute", x.count(9), minute + 1);
        Checks.due("30: all left", x.count(10), 0);
        // again goes on with an act's first turn, whatever became of its second one.
        GreatWheel y = Checks.wheelOf("cars 8;seats 2;bears 45;minutes 1;party 60;");
        Checks.rule(y, "again 9 hurry;");
        y.load(y.come(0));
        Checks.due("30: again", y.go(), 0);
        Checks.due("30: one turn", y.count(8), 1);
        Checks.due("30: two minutes", y.count(9), 2);
    }

    private static void goRound() {
        for (int cars : new int[] {4, 6, 8, 12}) {
            GreatWheel x = Checks.wheelOf("cars " + cars + ";bears 999;minutes 2;party 10 rides 3;");
            Checks.rule(x, "again 2 round;");
            x.load(x.come(0));
            x.turn();
            Checks.due("30: round", x.go(), 0);
            Checks.due("30: foot", x.count(8), 1);
            Checks.due("30: minutes", x.count(9), 1 + 2 * (2 * cars + 1));
            Checks.due("30: rounds", x.visit(0, 3), 2);
        }
        GreatWheel y = Checks.wheelOf("cars 8;seats 2;bears 45;minutes 1;party 60;");
        Checks.rule(y, "round;");
        y.load(y.come(0));
        Checks.due("30: as many as may", y.go(), 0);
        Checks.due("30: foot", y.count(8), 1);
        Checks.due("30: may not be", y.go(), -1);
    }

    private static void dueDay(GreatWheel x, int seed, int minutes, int come, int... want) {
        for (int what = 0; what < want.length; what++) {
            Checks.due("31: day(" + seed + ", " + minutes + ", " + come + ", " + what + ")",
                    x.day(seed, minutes, come, what), want[what]);
        }
    }

    /** Somebody comes each minute; what happens is told minute by minute. */
    private static void dayByHand() {
        GreatWheel x = Checks.wheelOf("cars 4;seats 1;minutes 2;bears 999;party 10;party 20 20;");
        dueDay(x, 1, 3, 100, 3, 0, 3, 0, 6, 0);
        Checks.rule(x, "empty;load;turn;");
        // 0: visit 0 comes, is loaded. 1: visit 1 (two guests), turn till 3. 3: visits 2 (came 2), 3; 2 is loaded.
        // 4: visit 4 comes, turn till 6: it leans by 10 in car 0 and car 1.
        dueDay(x, 7, 1, 100, 1, 1, 0, 0, 1, 0);
        dueDay(x, 7, 2, 100, 2, 1, 1, 1, 3, 1000);
        dueDay(x, 7, 3, 100, 2, 1, 1, 1, 3, 1000);
        dueDay(x, 7, 4, 100, 3, 2, 2, 1, 1 + 3 + 2 + 1, 1000);
        dueDay(x, 7, 5, 100, 5, 2, 3, 2, 1 + 5 + 2 + 3 + 2, 1000);
        dueDay(x, 7, 480, 0, 0, 0, 0, 240, 0, 0);
        x.bag(0, 1);
        dueDay(x, 7, 1, 0, 0, 0, 0, 1, 0, 2000);
        Checks.rule(x, "turn if late 1;");
        // What it leans at first is none behind a going.
        x.bag(0, 0);
        x.bag(1, 1);
        dueDay(x, 7, 1, 0, 0, 0, 0, 0, 0, 2000);
        dueDay(x, 7, 2, 0, 0, 0, 0, 1, 0, 2000);
        Checks.rule(x, "turn;");
        dueDay(x, 7, 1, 0, 0, 0, 0, 1, 0, 0);
    }

    /** Draws as the document tells them, reckoned here anew with longs. */
    private static void dayDraws() {
        GreatWheel x = Checks.wheelOf("minutes 1;party 10;party 20 20;party 5;");
        for (int seed : new int[] {0, 1, 2, -1, 12345, Integer.MAX_VALUE, Integer.MIN_VALUE}) {
            for (int come : new int[] {0, 1, 10, 37, 50, 99, 100}) {
                long draw = seed & 0xffffffffL;
                int visits = 0;
                int waits = 0;
                int longest = 0;
                for (int minute = 0; minute < 100; minute++) {
                    draw = (1103515245L * draw + 12345L) & 0xffffffffL;
                    if ((draw >> 16) % 100 < come && visits < 60) {
                        visits++;
                        waits += 100 - minute;
                        longest = Math.max(longest, 100 - minute);
                    }
                }
                dueDay(x, seed, 100, come, longest, 0, visits, 0, waits, 0);
            }
        }
        dueDay(x, 3, 480, 100, 480, 0, 60, 0, 480 * 60 - 59 * 30, 0);
    }

    private static void dayStarts() {
        GreatWheel x = Checks.wheelOf("cars 4;seats 1;minutes 2;bears 999;bag 30;party 10;party 20;");
        Checks.rule(x, "load;turn;");
        x.bag(3, 1);
        int[] before = new int[6];
        for (int what = 0; what < 6; what++) {
            before[what] = x.day(5, 60, 40, what);
        }
        x.load(x.come(1));
        x.come(0);
        x.turn();
        x.rest(500);
        for (int what = 0; what < 6; what++) {
            Checks.due("31: whatever is there", x.day(5, 60, 40, what), before[what]);
        }
        Checks.due("31: nothing stays, visits", x.count(7), 2);
        Checks.due("31: nothing stays, foot", x.count(8), 1);
        Checks.due("31: nothing stays, minute", x.count(9), 503);
        Checks.due("31: nothing stays, guests", x.count(10), 1);
        Checks.due("31: nothing stays, bags", x.car(3, 4), 1);
        Checks.due("31: bags count", x.day(5, 3, 0, 5), 3000);
        x.bag(3, 2);
        Checks.due("31: bags count", x.day(5, 3, 0, 5), 6000);
        Checks.wheel(x, "cars 4;");
        dueDay(x, 5, 10, 100, 0, 0, 0, 5, 0, 0);
    }

    private static void dayBounds() {
        GreatWheel x = new GreatWheel();
        Checks.due("31: 1 minute", x.day(0, 1, 0, 0), 0);
        Checks.due("31: 480 minutes", x.day(0, 480, 100, 0), 0);
        Checks.dueThrow("31: minutes", IAE, () -> x.day(0, 0, 0, 0));
        Checks.dueThrow("31: minutes", IAE, () -> x.day(0, 481, 0, 0));
        Checks.dueThrow("31: come", IAE, () -> x.day(0, 1, -1, 0));
        Checks.dueThrow("31: come", IAE, () -> x.day(0, 1, 101, 0));
        Checks.dueThrow("31: what", IAE, () -> x.day(0, 1, 0, 6));
        Checks.dueThrow("31: what", IAE, () -> x.day(0, 1, 0, -1));
    }

    private static void days() {
        GreatWheel x = Checks.wheelOf("cars 6;seats 2;minutes 3;bears 150;party 60;party 40 30 fear;party 70 rides 2;");
        Checks.rule(x, "empty;load if room 1 and not leans 90;turn;");
        int longest = 0;
        int first = 1;
        int loaded = 0;
        for (int n = 1; n <= 30; n++) {
            int wait = x.day(n, 90, 30, 0);
            loaded += x.day(n, 90, 30, 1);
            if (wait > longest) {
                longest = wait;
                first = n;
            }
            Checks.due("32: longest of " + n, x.days(n, 90, 30, 0), longest);
            Checks.due("32: seed of " + n, x.days(n, 90, 30, 1), first);
            Checks.due("32: loaded of " + n, x.days(n, 90, 30, 2), loaded);
        }
        Checks.due("32: some were loaded", loaded > 0, true);
        Checks.due("32: nobody ever came", x.days(30, 480, 0, 0), 0);
        Checks.due("32: the first has it too", x.days(30, 480, 0, 1), 1);
        Checks.due("32: nobody", x.days(30, 480, 0, 2), 0);
        Checks.dueThrow("32: n", IAE, () -> x.days(0, 1, 0, 0));
        Checks.dueThrow("32: n", IAE, () -> x.days(31, 1, 0, 0));
        Checks.dueThrow("32: minutes", IAE, () -> x.days(1, 0, 0, 0));
        Checks.dueThrow("32: minutes", IAE, () -> x.days(1, 481, 0, 0));
        Checks.dueThrow("32: come", IAE, () -> x.days(1, 1, 101, 0));
        Checks.dueThrow("32: come", IAE, () -> x.days(1, 1, -1, 0));
        Checks.dueThrow("32: what", IAE, () -> x.days(1, 1, 0, 3));
        Checks.dueThrow("32: what", IAE, () -> x.days(1, 1, 0, -1));
        Checks.due("32: nothing stays", x.count(7) + x.count(9), 0);
    }
}
