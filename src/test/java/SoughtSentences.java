/** Promises 24 to 28: empties, fills, bags, ballast, alike. */
final class SoughtSentences extends Sentences {
    private SoughtSentences() {
    }

    // ---- 24

    @Says(in = "Promise 24", words = "EMPTYING, what NONE: TURNS, else the what-th CAR that is let out.")
    static void p24_empties() {
        GreatWheel x = wheelOf("cars 4;bears 999;party 50 rides 9;");
        due("nobody sits: no turn", x.empties(-1), 0);
        seat(x, 0);
        due("at the foot: no turn", x.empties(-1), 0);
        due("the first car", x.empties(0), 0);
        turn(x, 1);
        seat(x, 0);
        turn(x, 1);
        due("turns", x.empties(-1), 3);
        due("the first car", x.empties(0), 0);
        due("the second car", x.empties(1), 1);
        Twins.dueUnchanged("empties", y -> {
            y.empties(-1);
            y.empties(0);
        });
    }

    @Says(in = "Promise 24", words = "NONE: it can't be, or not so many.")
    static void p24_none() {
        GreatWheel x = wheelOf("cars 4;bears 50;bag 10;party 50;");
        for (int what : new int[] {0, 1, 11, 12, 99, GREATEST}) {
            due("nobody sits: empties(" + what + ")", x.empties(what), -1);
        }
        seat(x, 0);
        due("one car", x.empties(0), 0);
        for (int what : new int[] {1, 2, 11, 12, 99, GREATEST}) {
            due("not so many: empties(" + what + ")", x.empties(what), -1);
        }
        turn(x, 1);
        x.bag(0, 1);
        for (int what : new int[] {-1, 0, 1, GREATEST}) {
            due("it can't be: empties(" + what + ")", x.empties(what), -1);
        }
        GreatWheel y = wheelOf("cars 12;seats 1;bears 999;party 5;");
        for (int car = 0; car < 12; car++) {
            seat(y, 0);
            turn(y, 1);
        }
        due("the twelfth car", y.empties(11), 11);
        due("not so many", y.empties(12), -1);
    }

    @Says(in = "Promise 24", words = "IllegalArgumentException: what is below NONE.")
    static void p24_throws() {
        GreatWheel x = new GreatWheel();
        for (int what : new int[] {-2, -3, LEAST}) {
            dueThrow("empties(" + what + ")", IAE, () -> x.empties(what));
        }
    }

    // ---- 25

    @Says(in = "Promise 25", words = "FILLING, what NONE: guests, -2: TURNS, else behind how many TURNS the what-th VISIT"
        + " (0 to 5) that waits is LOADED (NONE: not at all, or no such one).")
    static void p25_fills() {
        GreatWheel x = wheelOf("cars 4;seats 2;bears 999;party 10;party 10 10;party 10 10 10;");
        due("nobody waits: guests", x.fills(7, -1), 0);
        due("nobody waits: turns", x.fills(7, -2), 0);
        for (int what = 0; what < 6; what++) {
            due("no such one", x.fills(7, what), -1);
        }
        come(x, 0, 2, 1, 0);
        x.load(3);
        // Of those that wait the second, of three guests, never gets in.
        int[] want = {0, -1, 1, -1, -1, -1};
        due("guests", x.fills(3, -1), 3);
        due("turns", x.fills(3, -2), 1);
        for (int what = 0; what < 6; what++) {
            due("fills(3, " + what + ")", x.fills(3, what), want[what]);
        }
        due("in no turn: guests", x.fills(0, -1), 1);
        due("in no turn: not at all", x.fills(0, 2), -1);
        Twins.dueUnchanged("fills", y -> {
            y.fills(7, -1);
            y.fills(3, 0);
        });
    }

    @Says(in = "Promise 25", words = "IllegalArgumentException: t, another what.")
    static void p25_throws() {
        GreatWheel x = wheelOf("party 5;");
        for (int t : new int[] {-1, 8, 9, LEAST, GREATEST}) {
            dueThrow("fills(" + t + ", -1)", IAE, () -> x.fills(t, -1));
        }
        for (int what : new int[] {-3, 6, 7, LEAST, GREATEST}) {
            dueThrow("fills(0, " + what + ")", IAE, () -> x.fills(0, what));
            dueThrow("fills(7, " + what + ")", IAE, () -> x.fills(7, what));
        }
        for (int t = 0; t <= 7; t++) {
            for (int what = -2; what < 6; what++) {
                due("fills(" + t + ", " + what + ") with nobody", x.fills(t, what), what < 0 ? 0 : -1);
            }
        }
    }

    // ---- 26

    @Says(in = "Promise 26", words = "BAGS, what NONE: how many, else how many in CAR what.")
    static void p26_bags() {
        for (int cars : new int[] {4, 6, 8, 12}) {
            GreatWheel x = wheelOf("cars " + cars + ";bears 50;bag 10;");
            due("none needed", x.bags(-1), 0);
            for (int car = 0; car < cars; car++) {
                due("none in car " + car, x.bags(car), 0);
            }
        }
        GreatWheel y = wheelOf("cars 4;bears 50;bag 10;");
        y.bag(0, 7);
        y.bag(1, 6);
        int[] want = {0, 0, 2, 1};
        due("how many", y.bags(-1), 3);
        for (int car = 0; car < 4; car++) {
            due("in car " + car, y.bags(car), want[car]);
        }
        Twins.dueUnchanged("bags", x -> x.bag(1, 9), x -> {
            x.bags(-1);
            x.bags(0);
        });
    }

    @Says(in = "Promise 26", words = "NONE: more than 4.")
    static void p26_moreThan4() {
        GreatWheel x = wheelOf("cars 4;bears 50;bag 10;");
        x.bag(0, 9);
        due("four", x.bags(-1), 4);
        due("four in car 2", x.bags(2), 4);
        x.bag(1, 6);
        due("five would do", x.bags(-1), -1);
        for (int car = 0; car < 4; car++) {
            due("bags(" + car + ")", x.bags(car), -1);
        }
        x.bag(1, 5);
        due("four", x.bags(-1), 4);
    }

    @Says(in = "Promise 26", words = "IllegalArgumentException: no such CAR.")
    static void p26_throws() {
        for (int cars : new int[] {4, 6, 8, 12}) {
            GreatWheel x = wheelOf("cars " + cars + ";");
            for (int what : new int[] {-2, cars, cars + 1, LEAST, GREATEST}) {
                dueThrow("bags(" + what + ")", IAE, () -> x.bags(what));
            }
        }
    }

    // ---- 27

    @Says(in = "Promise 27", words = "BALLAST, what NONE: how many, else how many in CAR what.")
    static void p27_ballast() {
        GreatWheel x = wheelOf("cars 4;bears 50;bag 10;party 30;");
        seat(x, 0);
        x.bag(1, 4);
        // w 20: car 1 leans by 60 with it; w 30: car 0 by 60 too.
        int[][] want = {{0, 0, 0, 0, 0}, {0, 0, 0, 0, 0}, {1, 0, 0, 0, 1}, {3, 0, 0, 1, 2}};
        int[] w = {0, 10, 20, 30};
        for (int i = 0; i < w.length; i++) {
            for (int what = -1; what < 4; what++) {
                due("ballast(" + w[i] + ", " + what + ")", x.ballast(w[i], what), want[i][what + 1]);
            }
        }
        Twins.dueUnchanged("ballast", y -> {
            y.ballast(100, -1);
            y.ballast(100, 0);
        });
    }

    @Says(in = "Promise 27", words = "NONE: more than 4.")
    static void p27_moreThan4() {
        GreatWheel x = wheelOf("cars 4;bears 50;bag 10;party 30;");
        seat(x, 0);
        x.bag(1, 3);
        due("four", x.ballast(40, -1), 4);
        due("two in car 2", x.ballast(40, 2), 2);
        due("two in car 3", x.ballast(40, 3), 2);
        for (int what = -1; what < 4; what++) {
            due("six would do: ballast(50, " + what + ")", x.ballast(50, what), -1);
            due("none would do: ballast(51, " + what + ")", x.ballast(51, what), -1);
            due("none would do: ballast(1200, " + what + ")", x.ballast(1200, what), -1);
        }
    }

    @Says(in = "Promise 27", words = "IllegalArgumentException: w, no such CAR.")
    static void p27_throws() {
        for (int cars : new int[] {4, 6, 8, 12}) {
            GreatWheel x = wheelOf("cars " + cars + ";bears 999;");
            for (int what : new int[] {-2, cars, cars + 1, LEAST, GREATEST}) {
                dueThrow("ballast(0, " + what + ")", IAE, () -> x.ballast(0, what));
            }
            for (int w : new int[] {-1, 1201, LEAST, GREATEST}) {
                dueThrow("ballast(" + w + ", -1)", IAE, () -> x.ballast(w, -1));
            }
            due("the least w", x.ballast(0, cars - 1), 0);
            due("the greatest w", x.ballast(1200, cars - 1), -1);
        }
    }

    // ---- 28

    @Says(in = "Promise 28", words = "ALIKE.")
    static void p28_alike() {
        GreatWheel x = wheelOf("cars 6;bears 999;bag 10;party 30;party 40;");
        seat(x, 0);
        turn(x, 1);
        seat(x, 1);
        x.image(0);
        due("the same", x.alike(0), 1);
        turn(x, 1);
        due("the foot doesn't matter", x.alike(0), 1);
        wheel(x, "cars 6;bag 10;");
        due("an empty one", x.alike(0), 0);
        x.bag(5, 3);
        x.bag(0, 4);
        due("turned", x.alike(0), 1);
        x.bag(5, 4);
        x.bag(0, 3);
        due("mirrored", x.alike(0), 2);
        x.bag(1, 1);
        due("neither", x.alike(0), 0);
        x.image(2);
        due("another image", x.alike(2), 1);
        Twins.dueUnchanged("alike", y -> y.alike(0));
    }

    @Says(in = "Promise 28", words = "NoSuchElementException: no such IMAGE;")
    static void p28_noSuchImage() {
        GreatWheel x = new GreatWheel();
        for (int i = 0; i < 3; i++) {
            x.image(i);
            due("alike(" + i + ")", x.alike(i), 1);
        }
        for (int i : new int[] {-1, 3, 4, LEAST, GREATEST}) {
            dueThrow("alike(" + i + ")", NSEE, () -> x.alike(i));
        }
    }

    @Says(in = "Promise 28", words = "IllegalStateException: none was made, or it has not as many CARS.")
    static void p28_noneWasMade() {
        int[] cars = {4, 6, 8, 12};
        for (int one : cars) {
            for (int other : cars) {
                GreatWheel x = wheelOf("cars " + one + ";");
                dueThrow("none was made", ISE, () -> x.alike(1));
                x.image(0);
                dueThrow("none was made", ISE, () -> x.alike(1));
                wheel(x, "cars " + other + ";");
                if (one == other) {
                    due("as many cars", x.alike(0), 1);
                } else {
                    dueThrow("not as many cars", ISE, () -> x.alike(0));
                }
            }
        }
    }
}
