import java.util.NoSuchElementException;

/** Promises 17 to 23: may, load, empty, turn, rest, judge, perform. */
public final class ActsTest {
    private static final Class<?> IAE = IllegalArgumentException.class;
    private static final Class<?> ISE = IllegalStateException.class;
    private static final Class<?> NSEE = NoSuchElementException.class;

    public static void main(String[] args) {
        may();
        mayPrecedence();
        load();
        empty();
        turn();
        rest();
        judge();
        judgeThrows();
        perform();
        Checks.end();
    }

    private static void may() {
        GreatWheel x = Checks.wheelOf("cars 4;seats 3;bears 60;bag 10;party 50;party 20 20 20 fear;");
        Checks.due("17: turn", x.may(0), 0);
        Checks.due("17: empty", x.may(1), 1);
        Checks.due("17: no such visit", x.may(10), 1);
        x.come(0);
        x.come(1);
        Checks.due("17: load", x.may(10), 0);
        Checks.due("17: load", x.may(11), 0);
        Checks.due("17: no such visit", x.may(12), 1);
        for (int act : new int[] {-1, 2, 5, 9, 70, 1000, Integer.MAX_VALUE, Integer.MIN_VALUE}) {
            Checks.due("17: another number " + act, x.may(act), 1);
        }
        GreatWheel full = Checks.wheelOf("party 1;");
        for (int v = 0; v < 60; v++) {
            full.come(0);
        }
        Checks.due("17: the last visit", full.may(69), 0);
        Checks.due("17: beyond it", full.may(70), 1);
        Checks.due("17: the number before", full.may(9), 1);
        x.load(0);
        Checks.due("17: it sits", x.may(10), 1);
        Checks.due("17: more guests than seats", x.may(11), 2);
        x.bag(0, 1);
        Checks.due("17: just so far", x.may(0), 0);
        x.bag(0, 2);
        Checks.due("17: too far", x.may(0), 3);
        x.bag(2, 1);
        Checks.due("17: evened", x.may(0), 0);
        Checks.due("17: nothing happens", x.count(9), 1);
    }

    /** With top, all kinds that hold at once: the least comes. */
    private static void mayPrecedence() {
        GreatWheel x = Checks.wheelOf("cars 4;seats 2;bears 999;party 10 fear;party 10 10;");
        x.load(x.come(0));
        x.turn();
        x.load(x.come(1));
        x.turn();
        Checks.due("17: top", x.top(), true);
        x.come(0);
        x.come(1);
        Checks.due("17: load at top", x.may(12), 4);
        Checks.due("17: load at top", x.may(13), 4);
        Checks.due("17: load of none at top", x.may(14), 1);
        Checks.due("17: empty of none at top", x.may(1), 1);
        Checks.due("17: turn at top", x.may(0), 0);
        x.turn();
        x.load(2);
        x.turn();
        // Visit 0 is at the foot and done; nobody of fear is opposite.
        Checks.due("17: done", x.may(1), 0);
        x.turn();
        // Visit 1 at the foot is done, visit 2 of fear is at the top.
        Checks.due("17: top", x.top(), true);
        Checks.due("17: done, but top", x.may(1), 4);
        Checks.due("17: no seats and top", x.may(13), 2);
        Checks.due("17: sits and no seats and top", x.may(11), 1);
        Checks.due("19: refused by top", x.empty(), -4);
        Checks.due("18: refused by seats", x.load(3), 2);
    }

    private static void load() {
        GreatWheel x = Checks.wheelOf("cars 4;seats 2;bears 1;party 50;party 60 70;");
        x.come(0);
        x.come(1);
        x.come(0);
        Checks.due("18: load", x.load(2), 0);
        Checks.due("18: car", x.visit(2, 2), 0);
        Checks.due("18: a minute", x.count(9), 1);
        Checks.due("18: guests", x.count(10), 1);
        Checks.due("18: too many", x.load(1), 2);
        Checks.due("18: it doesn't wait", x.load(2), 1);
        Checks.due("18: no such", x.load(3), 1);
        Checks.due("18: no such", x.load(-1), 1);
        Checks.due("18: no such", x.load(Integer.MIN_VALUE), 1);
        Checks.due("18: no such", x.load(Integer.MAX_VALUE), 1);
        Checks.due("18: nothing happened", x.count(9), 1);
        Checks.due("18: nothing happened", x.count(10), 1);
        Checks.due("18: however far it leans", x.load(0), 0);
        Checks.due("18: seats are full", x.car(0, 0), 2);
        Checks.due("20: too far", x.turn(), 3);
    }

    private static void empty() {
        GreatWheel x = Checks.wheelOf("cars 4;seats 4;bears 999;minutes 1;party 50;party 60 rides 2;party 5 5;");
        Checks.due("19: nobody", x.empty(), -1);
        x.load(x.come(0));
        x.load(x.come(1));
        x.load(x.come(2));
        Checks.due("19: nobody is done", x.empty(), -1);
        Checks.due("19: nothing happened", x.count(9), 3);
        for (int n = 0; n < 4; n++) {
            x.turn();
        }
        Checks.due("19: two left", x.empty(), 2);
        Checks.due("19: a minute", x.count(9), 8);
        Checks.due("19: one stays", x.count(10), 1);
        Checks.due("19: gone", x.visit(0, 2), -2);
        Checks.due("19: stays", x.visit(1, 2), 0);
        Checks.due("19: gone", x.visit(2, 2), -2);
        Checks.due("19: load", x.car(0, 1), 60);
        Checks.due("19: nobody is done", x.empty(), -1);
        Checks.due("18: one that is gone", x.load(0), 1);
    }

    private static void turn() {
        GreatWheel x = Checks.wheelOf("cars 4;bears 50;minutes 7;bag 1;party 50;");
        x.load(x.come(0));
        for (int n = 1; n <= 9; n++) {
            Checks.due("20: turn", x.turn(), 0);
            Checks.due("20: foot", x.count(8), n % 4);
            Checks.due("20: minutes", x.count(9), 1 + 7 * n);
        }
        Checks.due("20: rounds", x.visit(0, 3), 2);
        x.turn();
        x.bag(0, 1);
        Checks.due("20: too far", x.turn(), 3);
        Checks.due("20: nothing happened", x.count(8), 2);
        Checks.due("20: nothing happened", x.count(9), 71);
        x.bag(2, 1);
        Checks.due("20: turn", x.turn(), 0);
        // Only how it would stand then counts, not how it stands.
        x.bag(0, 9);
        Checks.due("20: from too far to upright", x.turn(), 0);
        Checks.due("20: rounds", x.visit(0, 3), 3);
    }

    private static void rest() {
        GreatWheel x = new GreatWheel();
        Checks.due("21: none", x.rest(0), 0);
        Checks.dueThrow("21: below", IAE, () -> x.rest(-1));
        Checks.dueThrow("21: above", IAE, () -> x.rest(1000));
        Checks.dueThrow("21: least", IAE, () -> x.rest(Integer.MIN_VALUE));
        Checks.dueThrow("21: greatest", IAE, () -> x.rest(Integer.MAX_VALUE));
        Checks.due("21: stays", x.count(9), 0);
        for (int n = 1; n <= 100; n++) {
            Checks.due("21: rest", x.rest(999), 999 * n);
        }
        Checks.dueThrow("21: above 99999", IAE, () -> x.rest(100));
        Checks.due("21: just 99999", x.rest(99), 99999);
        Checks.due("21: none", x.rest(0), 99999);
        Checks.dueThrow("21: one more", IAE, () -> x.rest(1));
        Checks.due("20: a turn goes on", x.turn(), 0);
        Checks.due("21: minute", x.count(9), 100001);
    }

    private static void put(GreatWheel x, int tray, long... numbers) {
        x.tray(tray, 2, numbers.length);
        for (int i = 0; i < numbers.length; i++) {
            x.write(tray, i, numbers[i]);
        }
    }

    private static void dueJudged(GreatWheel x, int place, int why, int guests, int lean) {
        Checks.due("22: place", x.judge(0, 0), place);
        Checks.due("22: by what", x.judge(0, 1), why);
        Checks.due("22: guests", x.judge(0, 2), guests);
        Checks.due("22: lean", x.judge(0, 3), lean);
    }

    private static void judge() {
        GreatWheel x = Checks.wheelOf("cars 4;seats 2;bears 40;minutes 1;party 30;party 20 30;party 1 fear;");
        x.come(0);
        x.come(1);
        x.come(2);
        put(x, 0);
        dueJudged(x, -1, 0, 0, 0);
        put(x, 0, 10);
        dueJudged(x, -1, 0, 1, 0);
        put(x, 0, 10, 0);
        dueJudged(x, -1, 0, 1, -3000);
        put(x, 0, 10, 10, 0);
        dueJudged(x, 1, 1, 1, 0);
        put(x, 0, 10, 11, 0);
        dueJudged(x, 1, 2, 1, 0);
        put(x, 0, 0, 11, 0, 12);
        dueJudged(x, 2, 3, 2, 0);
        put(x, 0, 12, 0, 0, 10);
        dueJudged(x, 3, 4, 1, 0);
        put(x, 0, 10, 0, 0, 0, 0, 1, 13);
        dueJudged(x, 6, 1, 0, 0);
        put(x, 0, 10, 0, 0, 0, 1);
        dueJudged(x, 4, 1, 1, 3000);
        put(x, 0, 2);
        dueJudged(x, 0, 1, 0, 0);
        x.tray(0, 3, 1);
        x.write(0, 0, 0x10000000AL);
        dueJudged(x, 0, 1, 0, 0);
        x.write(0, 0, Long.MIN_VALUE + 10);
        dueJudged(x, 0, 1, 0, 0);
        x.write(0, 0, Long.MAX_VALUE);
        dueJudged(x, 0, 1, 0, 0);
        x.write(0, 0, -1);
        dueJudged(x, 0, 1, 0, 0);
        Checks.due("22: nothing stays, minute", x.count(9), 0);
        Checks.due("22: nothing stays, guests", x.count(10), 0);
        Checks.due("22: nothing stays, foot", x.count(8), 0);
        Checks.due("22: nothing stays, visit", x.visit(0, 2), -1);
    }

    private static void judgeThrows() {
        GreatWheel x = new GreatWheel();
        Checks.dueThrow("22: tray", NSEE, () -> x.judge(4, 0));
        Checks.dueThrow("22: tray first", NSEE, () -> x.judge(-1, 9));
        Checks.dueThrow("22: missing", ISE, () -> x.judge(3, 0));
        Checks.dueThrow("22: missing ahead of what", ISE, () -> x.judge(0, 4));
        x.tray(0, 0, 3);
        Checks.dueThrow("22: what", IAE, () -> x.judge(0, 4));
        Checks.dueThrow("22: what", IAE, () -> x.judge(0, -1));
        Checks.due("22: three turns", x.judge(0, 0), -1);
        Checks.due("22: nothing stays", x.count(8), 0);
    }

    private static void perform() {
        GreatWheel x = Checks.wheelOf("cars 4;seats 2;bears 40;minutes 1;party 30;");
        x.come(0);
        x.come(0);
        put(x, 0, 10, 0, 0, 0, 0, 1, 11, 11, 0);
        Checks.due("23: till one may not be", x.perform(0), 7);
        Checks.due("23: minute", x.count(9), 7);
        Checks.due("23: foot", x.count(8), 0);
        Checks.due("23: gone", x.visit(0, 2), -2);
        Checks.due("23: sits", x.visit(1, 2), 0);
        put(x, 3, 0, 0);
        Checks.due("23: all", x.perform(3), 2);
        Checks.due("23: foot", x.count(8), 2);
        put(x, 2);
        Checks.due("23: none there", x.perform(2), 0);
        put(x, 2, 5, 0);
        Checks.due("23: the first can't be", x.perform(2), 0);
        Checks.due("23: foot", x.count(8), 2);
        Checks.dueThrow("23: missing", ISE, () -> x.perform(1));
        Checks.dueThrow("23: tray", NSEE, () -> x.perform(4));
        Checks.dueThrow("23: tray", NSEE, () -> x.perform(-1));
        x.tray(1, 0, 40);
        Checks.due("23: forty turns", x.perform(1), 40);
    }
}
