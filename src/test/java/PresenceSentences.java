/** Promises 8 to 16: come, visit, waits, car, bag, lean, worst, sure, top. */
final class PresenceSentences extends Sentences {
    private PresenceSentences() {
    }

    // ---- 8

    @Says(in = "Promise 8", words = "A PARTY comes: the VISIT;")
    static void p08_aPartyComes() {
        GreatWheel x = wheelOf("party 5;party 6;");
        due("the first", x.come(1), 0);
        due("the second", x.come(1), 1);
        due("the third", x.come(0), 2);
        due("visits", x.count(7), 3);
        due("no minute goes by", x.count(9), 0);
        due("it waits", x.waits(2), 2);
        due("its party", x.visit(2, 0), 0);
    }

    @Says(in = "Promise 8", words = "NONE: there are 60.")
    static void p08_noneAt60() {
        GreatWheel x = wheelOf("cars 4;party 5;");
        seat(x, 0);
        for (int v = 1; v < 59; v++) {
            x.come(0);
        }
        due("the 60th", x.come(0), 59);
        due("a 61st", x.come(0), -1);
        // Those who are gone are visits still.
        turn(x, 4);
        due("one is gone", x.empty(), 1);
        due("a 61st", x.come(0), -1);
        due("visits", x.count(7), 60);
        due("who waits last", x.waits(58), 59);
        due("nobody behind", x.waits(59), -1);
        dueThrow("no such party ahead of it", NSEE, () -> x.come(1));
    }

    // ---- 9

    private static void dueVisit(GreatWheel x, int v, int... want) {
        for (int what = 0; what < 5; what++) {
            due("visit(" + v + ", " + what + ")", x.visit(v, what), want[what]);
        }
    }

    @Says(in = "Promise 9", words = "Of a VISIT, what 0: its PARTY, 1: the MINUTE in which it came, 2: its CAR (NONE: it"
        + " waits; -2: it is gone), 3: ROUNDS,")
    static void p09_whats() {
        GreatWheel x = wheelOf("cars 4;minutes 3;bears 999;party 50 rides 2;party 60;");
        x.rest(5);
        come(x, 1);
        x.rest(2);
        come(x, 0);
        dueVisit(x, 0, 1, 5, -1, 0, 2);
        dueVisit(x, 1, 0, 7, -1, 0, 0);
        turn(x, 3);
        x.load(1);
        dueVisit(x, 1, 0, 7, 3, 0, 10);
        turn(x, 4);
        dueVisit(x, 1, 0, 7, 3, 1, 10);
        turn(x, 4);
        dueVisit(x, 1, 0, 7, 3, 2, 10);
        due("empty", x.empty(), 1);
        dueVisit(x, 1, 0, 7, -2, 2, 10);
        turn(x, 4);
        dueVisit(x, 1, 0, 7, -2, 2, 10);
    }

    @Says(in = "Promise 9", words = "4: MINUTES that it waited (till now, if it waits).")
    static void p09_minutesThatItWaited() {
        GreatWheel x = wheelOf("cars 4;minutes 3;bears 999;party 50;");
        x.rest(4);
        come(x, 0, 0);
        due("none yet", x.visit(0, 4), 0);
        x.rest(6);
        due("till now", x.visit(0, 4), 6);
        turn(x, 1);
        due("till now", x.visit(0, 4), 9);
        x.load(0);
        due("with the minute of its load", x.visit(0, 4), 10);
        due("the other, till now", x.visit(1, 4), 10);
        x.rest(100);
        due("no more", x.visit(0, 4), 10);
        due("the other, till now", x.visit(1, 4), 110);
        turn(x, 4);
        x.empty();
        due("gone: as it was", x.visit(0, 4), 10);
        GreatWheel y = wheelOf("party 50;");
        seat(y, 0);
        due("one that is let in at once", y.visit(0, 4), 1);
    }

    @Says(in = "Promise 9", words = "NoSuchElementException: no such VISIT;")
    static void p09_noSuchVisit() {
        GreatWheel x = wheelOf("party 5;");
        for (int visits = 0; visits <= 60; visits++) {
            int first = visits;
            dueThrow("visit(" + first + ", 0)", NSEE, () -> x.visit(first, 0));
            x.come(0);
        }
        due("the last", x.visit(59, 0), 0);
        for (int v : new int[] {-1, 60, 61, LEAST, GREATEST}) {
            dueThrow("visit(" + v + ", 0)", NSEE, () -> x.visit(v, 0));
        }
    }

    @Says(in = "Promise 9", words = "IllegalArgumentException: another what.")
    static void p09_anotherWhat() {
        GreatWheel x = wheelOf("party 5;");
        come(x, 0);
        for (int what : new int[] {-1, 5, 6, LEAST, GREATEST}) {
            dueThrow("visit(0, " + what + ")", IAE, () -> x.visit(0, what));
        }
    }

    // ---- 10

    @Says(in = "Promise 10", words = "The k-th VISIT that waits, from 0 on; NONE.")
    static void p10_theKthThatWaits() {
        GreatWheel x = wheelOf("cars 4;seats 1;bears 999;party 50;");
        due("nobody", x.waits(0), -1);
        come(x, 0, 0, 0, 0);
        x.load(1);
        turn(x, 4);
        x.empty();
        x.load(3);
        int[] want = {0, 2, -1, -1};
        for (int k = 0; k < want.length; k++) {
            due("waits(" + k + ")", x.waits(k), want[k]);
        }
        for (int k : new int[] {-1, -2, 60, LEAST, GREATEST}) {
            due("waits(" + k + ")", x.waits(k), -1);
        }
        for (int v = 4; v < 60; v++) {
            come(x, 0);
        }
        due("the last of 58", x.waits(57), 59);
        due("behind it", x.waits(58), -1);
    }

    // ---- 11

    private static void dueCar(GreatWheel x, int car, int... want) {
        for (int what = 0; what < want.length; what++) {
            due("car(" + car + ", " + what + ")", x.car(car, what), want[what]);
        }
    }

    @Says(in = "Promise 11", words = "Of a CAR, what 0: guests, 1: LOAD, 2: VISITS that are DONE, 3: its 24th, 4: sandbags,")
    static void p11_whats() {
        GreatWheel x = wheelOf("cars 6;seats 4;bears 999;bag 7;party 50 40;party 60 rides 2;");
        dueCar(x, 0, 0, 0, 0, 0, 0, -1);
        x.bag(0, 3);
        seat(x, 0, 1);
        dueCar(x, 0, 3, 171, 0, 0, 3, 0);
        dueCar(x, 1, 0, 0, 0, 4, 0, -1);
        dueCar(x, 5, 0, 0, 0, 20, 0, -1);
        turn(x, 5);
        dueCar(x, 0, 3, 171, 0, 4, 3, 0);
        turn(x, 1);
        dueCar(x, 0, 3, 171, 1, 0, 3, 0);
        turn(x, 2);
        // Done is who is done, wherever the car stands.
        dueCar(x, 0, 3, 171, 1, 16, 3, 0);
        turn(x, 4);
        dueCar(x, 0, 3, 171, 2, 0, 3, 0);
        x.empty();
        dueCar(x, 0, 0, 21, 0, 0, 3, -1);
    }

    @Says(in = "Promise 11", words = "5: the first VISIT in it (NONE).")
    static void p11_theFirstVisit() {
        GreatWheel x = wheelOf("cars 4;seats 3;bears 999;party 5;party 5 rides 2;");
        come(x, 1, 0, 1);
        due("nobody", x.car(0, 5), -1);
        x.load(2);
        due("one", x.car(0, 5), 2);
        x.load(1);
        due("by number", x.car(0, 5), 1);
        x.load(0);
        due("by number", x.car(0, 5), 0);
        due("another car", x.car(1, 5), -1);
        GreatWheel y = wheelOf("cars 4;seats 3;bears 999;party 5;party 5 rides 2;");
        seat(y, 0, 1);
        turn(y, 4);
        y.empty();
        due("who is gone is not in it", y.car(0, 5), 1);
    }

    @Says(in = "Promise 11", words = "NoSuchElementException: no such CAR (as everywhere);")
    static void p11_noSuchCar() {
        for (int cars : new int[] {4, 6, 8, 12}) {
            GreatWheel x = wheelOf("cars " + cars + ";");
            for (int car : new int[] {-1, cars, cars + 1, 24, LEAST, GREATEST}) {
                dueThrow("car(" + car + ", 0)", NSEE, () -> x.car(car, 0));
                dueThrow("bag(" + car + ", 0)", NSEE, () -> x.bag(car, 0));
                dueThrow("lean(" + car + ")", NSEE, () -> x.lean(car));
                dueThrow("worst(" + car + ")", NSEE, () -> x.worst(car));
            }
            due("the last car", x.car(cars - 1, 0), 0);
            due("the last car", x.bag(cars - 1, 0), 0);
            due("the last car", x.lean(cars - 1), 0);
            due("the last car", x.worst(cars - 1), 0);
        }
    }

    @Says(in = "Promise 11", words = "IllegalArgumentException: another what.")
    static void p11_anotherWhat() {
        GreatWheel x = new GreatWheel();
        for (int what : new int[] {-1, 6, 7, LEAST, GREATEST}) {
            dueThrow("car(0, " + what + ")", IAE, () -> x.car(0, what));
        }
    }

    // ---- 12

    @Says(in = "Promise 12", words = "In a CAR lie n sandbags (0 to 9): how many lay there.")
    static void p12_bag() {
        GreatWheel x = wheelOf("cars 4;bears 999;bag 10;party 33;");
        seat(x, 0);
        int lay = 0;
        for (int n : new int[] {0, 9, 3, 3, 8, 1, 0, 0}) {
            due("bag(0, " + n + ")", x.bag(0, n), lay);
            due("sandbags", x.car(0, 4), n);
            due("load", x.car(0, 1), 33 + 10 * n);
            due("the others have none", x.car(1, 4) + x.car(2, 4) + x.car(3, 4), 0);
            lay = n;
        }
        due("no minute goes by", x.count(9), 1);
        turn(x, 2);
        due("in a car that is not at the foot", x.bag(1, 5), 0);
        due("its load", x.car(1, 1), 50);
    }

    @Says(in = "Promise 12", words = "IllegalArgumentException: n.")
    static void p12_throws() {
        GreatWheel x = wheelOf("cars 4;");
        x.bag(0, 4);
        for (int n : new int[] {-1, 10, 11, LEAST, GREATEST}) {
            dueThrow("bag(0, " + n + ")", IAE, () -> x.bag(0, n));
        }
        due("as it was", x.car(0, 4), 4);
    }

    // ---- 13 to 16

    @Says(in = "Promise 13", words = "LEAN with a CAR at the FOOT.")
    static void p13_lean() {
        GreatWheel x = wheelOf("cars 4;bears 999;bag 5;party 50 30;");
        seat(x, 0);
        x.bag(1, 2);
        x.bag(2, 3);
        int[] want = {1000, 1500 - 8000, -1000, 8000 - 1500};
        for (int n = 0; n < 4; n++) {
            for (int car = 0; car < 4; car++) {
                due("lean(" + car + ") wherever it stands", x.lean(car), want[car]);
            }
            turn(x, 1);
        }
    }

    @Says(in = "Promise 14", words = "WORST with a CAR at the FOOT.")
    static void p14_worst() {
        GreatWheel x = wheelOf("cars 4;bears 999;bag 5;party 50 30 off 7;party 10 off 50;");
        seat(x, 0);
        x.bag(1, 2);
        int[] want = {1000, 8000 + 1400, 1000, 8000 + 1400};
        come(x, 1);
        for (int n = 0; n < 4; n++) {
            for (int car = 0; car < 4; car++) {
                due("worst(" + car + ") wherever it stands", x.worst(car), want[car]);
            }
            turn(x, 1);
        }
        due("empty", x.empty(), 1);
        due("who is gone is none", x.worst(1), 0);
    }

    @Says(in = "Promise 15", words = "SURE; NONE: none.")
    static void p15_sure() {
        GreatWheel x = wheelOf("cars 8;bears 70;bag 1;party 60 off 10;");
        due("none", x.sure(), -1);
        seat(x, 0);
        due("worst just so far", x.worst(2), 7000);
        due("none", x.sure(), -1);
        x.bag(0, 1);
        due("with car 2 at the foot", x.sure(), 2);
        turn(x, 5);
        due("wherever it stands", x.sure(), 2);
        x.bag(0, 9);
        due("1: 69 by 71 and 710 are less than 7000", x.sure(), 2);
        GreatWheel y = wheelOf("cars 4;bears 1;bag 1;");
        y.bag(1, 2);
        due("with car 0 at the foot", y.sure(), 0);
        y.bag(3, 1);
        due("none", y.sure(), -1);
    }

    @Says(in = "Promise 16", words = "Whether it is TOP.")
    static void p16_top() {
        GreatWheel x = wheelOf("cars 8;bears 999;party 5 fear;party 5;");
        due("nobody", x.top(), false);
        seat(x, 0);
        for (int n = 0; n < 16; n++) {
            due("behind " + n + " turns", x.top(), n % 8 == 4);
            turn(x, 1);
        }
        x.empty();
        seat(x, 1);
        turn(x, 4);
        due("one without fear", x.top(), false);
    }
}
