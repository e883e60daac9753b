/** Promises 17 to 23: may, load, empty, turn, rest, judge, perform. */
final class ActsSentences extends Sentences {
    private ActsSentences() {
    }

    // ---- 17

    @Says(in = "Promise 17", words = "By what an ACT (numbers as of JUDGED) MAY not be; 0.")
    static void p17_may() {
        GreatWheel x = wheelOf("cars 4;seats 2;bears 50;bag 10;party 40;party 20 20;party 1 fear;");
        due("0 turn", x.may(0), 0);
        due("1 empty", x.may(1), 1);
        for (int act : new int[] {LEAST, -1, 2, 3, 8, 9, 10, 11, 69, 70, 71, GREATEST}) {
            due("may(" + act + ")", x.may(act), 1);
        }
        come(x, 0, 1, 2);
        due("10 load of visit 0", x.may(10), 0);
        due("11 load of visit 1", x.may(11), 0);
        due("12 load of visit 2", x.may(12), 0);
        due("13 no such visit", x.may(13), 1);
        x.load(0);
        due("10 it sits", x.may(10), 1);
        due("11 too many guests", x.may(11), 2);
        x.bag(0, 2);
        due("0 too far", x.may(0), 3);
        x.bag(0, 1);
        due("0 just so far", x.may(0), 0);
        x.load(2);
        x.bag(0, 0);
        turn(x, 2);
        due("11 top", x.may(11), 4);
        turn(x, 2);
        due("1 somebody is done", x.may(1), 0);
        GreatWheel full = wheelOf("party 1;");
        for (int v = 0; v < 60; v++) {
            due("before it came", full.may(10 + v), 1);
            full.come(0);
            due("the last that came", full.may(10 + v), 0);
        }
        due("70 no such visit", full.may(70), 1);
        Twins.dueUnchanged("may", y -> {
            for (int act = -1; act < 20; act++) {
                y.may(act);
            }
        });
    }

    // ---- 18

    @Says(in = "Promise 18", words = "LOAD: 0, or by what it MAY not be")
    static void p18_load() {
        GreatWheel x = wheelOf("cars 4;seats 2;bears 999;party 5;party 5 5;party 5 fear;");
        due("no such visit", x.load(0), 1);
        come(x, 0, 1, 2);
        due("load", x.load(0), 0);
        due("it sits already", x.load(0), 1);
        due("too many guests", x.load(1), 2);
        due("load of another", x.load(2), 0);
        due("guests", x.car(0, 0), 2);
        turn(x, 2);
        due("top", x.load(1), 4);
        turn(x, 1);
        due("load", x.load(1), 0);
        due("its car", x.visit(1, 2), 3);
        for (int v : new int[] {-1, 3, 60, LEAST, GREATEST}) {
            due("load(" + v + ")", x.load(v), 1);
        }
        turn(x, 1);
        x.empty();
        due("it is gone", x.load(0), 1);
    }

    @Says(in = "Promise 18", words = "(nothing happens then, so below).")
    static void p18_nothingHappens() {
        // In the rich state visit 1 is gone, 0 sits, 4 waits; a car is full, none is top.
        Twins.dueUnchanged("load of one that is gone", x -> due("load", x.load(1), 1));
        Twins.dueUnchanged("load of one that sits", x -> due("load", x.load(0), 1));
        Twins.dueUnchanged("load of none", x -> due("load", x.load(7), 1));
        Twins.dueUnchanged("load of too many", x -> due("load", x.load(6), 2));
        Twins.dueUnchanged("load at the top", x -> turn(x, 3), x -> due("load", x.load(4), 4));
        Twins.dueUnchanged("empty of nobody that is done", x -> turn(x, 1), x -> due("empty", x.empty(), -1));
        Twins.dueUnchanged("empty at the top", ActsSentences::toDoneAtTop, x -> due("empty", x.empty(), -4));
        Twins.dueUnchanged("turn too far", x -> x.bag(1, 9), x -> due("turn", x.turn(), 3));
    }

    /** Who sits at the foot is done, and one of fear is over against it. */
    private static void toDoneAtTop(GreatWheel x) {
        wheel0(x, "cars 4;bears 999;party 5;party 6 fear;");
        seat(x, 0);
        turn(x, 2);
        seat(x, 1);
        turn(x, 2);
    }

    /** The rich state has bytes on its tape, which a rule that is none takes away. */
    private static void wheel0(GreatWheel x, String text) {
        x.rule(1);
        due("the test's own wheel", wheel(x, text) > 0, true);
    }

    // ---- 19

    @Says(in = "Promise 19", words = "EMPTY: how many VISITS left;")
    static void p19_howManyLeft() {
        GreatWheel x = wheelOf("cars 4;seats 6;bears 999;party 5 5 5;party 5;party 5 rides 2;");
        seat(x, 0, 1, 2, 1);
        turn(x, 4);
        due("three visits, of five guests", x.empty(), 3);
        due("one stays", x.count(10), 1);
        turn(x, 4);
        due("the last", x.empty(), 1);
        due("nobody", x.count(10), 0);
    }

    @Says(in = "Promise 19", words = "below 0: less by what it MAY not be.")
    static void p19_lessByWhat() {
        GreatWheel x = wheelOf("cars 4;bears 999;party 5;party 5 fear;");
        due("nobody is there", x.empty(), -1);
        seat(x, 0);
        due("nobody is done", x.empty(), -1);
        turn(x, 2);
        due("nobody is there", x.empty(), -1);
        seat(x, 1);
        turn(x, 2);
        due("top", x.empty(), -4);
        due("it sits", x.visit(0, 2), 0);
        turn(x, 2);
        due("may", x.empty(), 1);
        turn(x, 2);
        due("no more top", x.empty(), 1);
    }

    // ---- 20

    @Says(in = "Promise 20", words = "TURN: 0, or by what it MAY not be.")
    static void p20_turn() {
        GreatWheel x = wheelOf("cars 4;bears 50;minutes 7;bag 10;party 50;");
        seat(x, 0);
        for (int n = 1; n <= 9; n++) {
            due("turn", x.turn(), 0);
            due("the foot", x.count(8), n % 4);
            due("the minute", x.count(9), 1 + 7 * n);
        }
        due("rounds", x.visit(0, 3), 2);
        turn(x, 1);
        x.bag(0, 1);
        due("too far", x.turn(), 3);
        due("the foot", x.count(8), 2);
        due("the minute", x.count(9), 71);
        due("rounds", x.visit(0, 3), 2);
        x.bag(2, 1);
        due("evened", x.turn(), 0);
    }

    // ---- 21

    @Says(in = "Promise 21", words = "So many MINUTES go by (0 to 999): the MINUTE then.")
    static void p21_rest() {
        GreatWheel x = wheelOf("party 5;");
        come(x, 0);
        due("none", x.rest(0), 0);
        due("one", x.rest(1), 1);
        due("the most", x.rest(999), 1000);
        due("the minute", x.count(9), 1000);
        due("it waits", x.visit(0, 4), 1000);
        due("the foot", x.count(8), 0);
    }

    @Says(in = "Promise 21", words = "IllegalArgumentException: the number, or it would be above 99999.")
    static void p21_throws() {
        GreatWheel x = new GreatWheel();
        for (int minutes : new int[] {-1, 1000, 1001, 99999, LEAST, GREATEST}) {
            dueThrow("rest(" + minutes + ")", IAE, () -> x.rest(minutes));
        }
        due("the minute stays", x.count(9), 0);
        for (int n = 1; n <= 100; n++) {
            due("rest", x.rest(999), 999 * n);
        }
        dueThrow("100000", IAE, () -> x.rest(100));
        due("the minute stays", x.count(9), 99900);
        due("just 99999", x.rest(99), 99999);
        due("none more", x.rest(0), 99999);
        dueThrow("one more", IAE, () -> x.rest(1));
        // Only resting has this bound.
        due("turn", x.turn(), 0);
        due("the minute", x.count(9), 100001);
        due("go", x.go(), -1);
        due("the minute", x.count(9), 100002);
        dueThrow("it would be above 99999 still", IAE, () -> x.rest(0));
    }

    // ---- 22

    private static void dueJudged(GreatWheel x, int place, int by, int guests, int lean) {
        int[] want = {place, by, guests, lean};
        for (int what = 0; what < 4; what++) {
            due("judge(0, " + what + ")", x.judge(0, what), want[what]);
        }
    }

    @Says(in = "Promise 22", words = "JUDGED, what 0: the place of that ACT (NONE: none), 1: by what (0),")
    static void p22_placeAndByWhat() {
        GreatWheel x = wheelOf("cars 4;seats 2;bears 40;minutes 1;party 30;party 20 30;party 1 fear;");
        come(x, 0, 1, 2);
        put(x, 0);
        dueJudged(x, -1, 0, 0, 0);
        put(x, 0, 10);
        dueJudged(x, -1, 0, 1, 0);
        put(x, 0, 1);
        dueJudged(x, 0, 1, 0, 0);
        put(x, 0, 10, 10, 0);
        dueJudged(x, 1, 1, 1, 0);
        put(x, 0, 10, 11, 0);
        dueJudged(x, 1, 2, 1, 0);
        put(x, 0, 0, 11, 0, 12);
        dueJudged(x, 2, 3, 2, 0);
        put(x, 0, 12, 0, 0, 10);
        dueJudged(x, 3, 4, 1, 0);
        x.tray(0, 0, 40);
        dueJudged(x, -1, 0, 0, 0);
        x.write(0, 39, 2);
        dueJudged(x, 39, 1, 0, 0);
    }

    @Says(in = "Promise 22", words = "2: guests that sit behind all ahead of it, 3: LEAN then.")
    static void p22_guestsAndLean() {
        GreatWheel x = wheelOf("cars 4;seats 6;bears 999;minutes 1;party 30;party 20 30;");
        seat(x, 1);
        come(x, 0, 1);
        put(x, 0);
        dueJudged(x, -1, 0, 2, 0);
        put(x, 0, 11, 0);
        dueJudged(x, -1, 0, 3, -8000);
        put(x, 0, 11, 0, 12, 1);
        // Behind the load into car 1: car 0 leans by minus 80.
        dueJudged(x, 3, 1, 5, -8000);
        put(x, 0, 11, 0, 12, 0, 0, 0, 5);
        dueJudged(x, 6, 1, 5, 5000);
        put(x, 0, 0, 0, 0, 0, 1, 11, 0, 9, 0);
        // Visit 1 let out, visit 0 let in, a turn; then a number that can't be.
        dueJudged(x, 7, 1, 1, -3000);
    }

    @Says(in = "Promise 22", words = "NoSuchElementException: no such TRAY (as below);")
    static void p22_noSuchTray() {
        GreatWheel x = new GreatWheel();
        for (int tray = 0; tray < 4; tray++) {
            x.tray(tray, 0, 1);
            due("judge(" + tray + ", 0)", x.judge(tray, 0), -1);
        }
        for (int tray : new int[] {-1, 4, 5, LEAST, GREATEST}) {
            dueThrow("judge(" + tray + ", 0)", NSEE, () -> x.judge(tray, 0));
            dueThrow("perform(" + tray + ")", NSEE, () -> x.perform(tray));
            dueThrow("write(" + tray + ", 0, 0)", NSEE, () -> x.write(tray, 0, 0));
            dueThrow("tray(" + tray + ", 0, 0)", NSEE, () -> x.tray(tray, 0, 0));
        }
    }

    @Says(in = "Promise 22", words = "IllegalStateException: it is MISSING (as below);")
    static void p22_missing() {
        GreatWheel x = new GreatWheel();
        for (int tray = 0; tray < 4; tray++) {
            int t = tray;
            dueThrow("judge", ISE, () -> x.judge(t, 0));
            dueThrow("perform", ISE, () -> x.perform(t));
            dueThrow("write", ISE, () -> x.write(t, 0, 0));
            x.tray(t, 3, 0);
            due("a row of none is not missing", x.judge(t, 0), -1);
            due("a row of none is not missing", x.perform(t), 0);
        }
    }

    @Says(in = "Promise 22", words = "IllegalArgumentException: another what.")
    static void p22_anotherWhat() {
        GreatWheel x = new GreatWheel();
        x.tray(0, 0, 1);
        for (int what : new int[] {-1, 4, 5, LEAST, GREATEST}) {
            dueThrow("judge(0, " + what + ")", IAE, () -> x.judge(0, what));
        }
    }

    // ---- 23

    @Says(in = "Promise 23", words = "ACTS of a TRAY are done, till one MAY not be: how many were.")
    static void p23_perform() {
        GreatWheel x = wheelOf("cars 4;seats 2;bears 40;minutes 1;party 30;");
        come(x, 0, 0);
        put(x, 0, 10, 0, 0, 0, 0, 1, 11, 11, 0);
        due("till the second load of visit 1", x.perform(0), 7);
        due("the minute", x.count(9), 7);
        due("the foot", x.count(8), 0);
        due("gone", x.visit(0, 2), -2);
        due("sits", x.visit(1, 2), 0);
        due("from where it stands then", x.perform(0), 0);
        put(x, 3, 0, 0);
        due("all", x.perform(3), 2);
        due("the foot", x.count(8), 2);
        put(x, 2);
        due("a row of none", x.perform(2), 0);
        put(x, 2, 5, 0);
        due("the first can't be", x.perform(2), 0);
        due("nothing behind it", x.count(8), 2);
        x.bag(0, 2);
        put(x, 2, 0, 0, 0);
        due("it would lean too far", x.perform(2), 0);
        due("the foot", x.count(8), 2);
        x.bag(0, 0);
        x.tray(1, 0, 40);
        due("forty turns", x.perform(1), 40);
        due("the minute", x.count(9), 49);
        due("the tray stays", x.perform(1), 40);
    }
}
