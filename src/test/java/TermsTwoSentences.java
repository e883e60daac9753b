/** The Terms behind "==== 2.": how it stands, who is there, acts. */
final class TermsTwoSentences extends Sentences {
    private static final int[] CARS = {4, 6, 8, 12};
    private static final int[] LEVER = {
        0, 26, 50, 71, 87, 97, 100, 97, 87, 71, 50, 26, 0, -26, -50, -71, -87, -97, -100, -97, -87, -71, -50, -26};

    private TermsTwoSentences() {
    }

    // ---- how it stands

    @Says(in = "Terms 2", words = "CARS stand round the WHEEL; one is at the FOOT (0 at first).")
    static void t2_footIs0AtFirst() {
        due("a new object", new GreatWheel().count(8), 0);
        for (int cars : CARS) {
            GreatWheel x = wheelOf("cars " + cars + ";");
            for (int n = 0; n <= 2 * cars; n++) {
                due("the foot behind " + n + " turns of " + cars, x.count(8), n % cars);
                turn(x, 1);
            }
        }
    }

    @Says(in = "Terms 2", words = "CAR c stands at the 24th (c less FOOT, round the CARS) times 24 by CARS.")
    static void t2_the24thOfACar() {
        for (int cars : CARS) {
            GreatWheel x = wheelOf("cars " + cars + ";");
            for (int foot = 0; foot < cars; foot++) {
                for (int car = 0; car < cars; car++) {
                    int round = car < foot ? car - foot + cars : car - foot;
                    due("car " + car + " with " + foot + " at the foot", x.car(car, 3), round * 24 / cars);
                }
                turn(x, 1);
            }
        }
    }

    @Says(in = "Terms 2", words = "LEVER of the 24ths 0 to 23: 0, 26, 50, 71, 87, 97, 100, 97, 87, 71, 50, 26, 0,"
        + " and so on with minus.")
    static void t2_leverOfThe24ths() {
        for (int cars : CARS) {
            GreatWheel x = wheelOf("cars " + cars + ";bag 1;");
            for (int car = 0; car < cars; car++) {
                x.bag(car, 1);
                for (int foot = 0; foot < cars; foot++) {
                    int part = Math.floorMod(car - foot, cars) * 24 / cars;
                    due("lever of 24th " + part, x.lean(foot), LEVER[part]);
                }
                x.bag(car, 0);
            }
        }
    }

    @Says(in = "Terms 2", words = "In a CAR lie sandbags (0 at first).")
    static void t2_noSandbagsAtFirst() {
        for (int cars : CARS) {
            GreatWheel x = wheelOf("cars " + cars + ";");
            for (int car = 0; car < cars; car++) {
                due("sandbags", x.car(car, 4), 0);
                due("what lay there", x.bag(car, car % 10), 0);
                due("sandbags", x.car(car, 4), car % 10);
            }
        }
    }

    // ---- who is there

    @Says(in = "Terms 2", words = "VISITS are numbered as PARTIES come, 60 at most:")
    static void t2_sixtyVisits() {
        GreatWheel x = wheelOf("party 5;party 6;party 7;");
        for (int v = 0; v < 60; v++) {
            due("visits", x.count(7), v);
            due("come", x.come(v % 3), v);
            due("its party", x.visit(v, 0), v % 3);
        }
        due("a 61st", x.come(0), -1);
        due("visits", x.count(7), 60);
    }

    @Says(in = "Terms 2", words = "each is of a PARTY, came in a MINUTE (0 at first),")
    static void t2_visitOfAPartyInAMinute() {
        GreatWheel x = wheelOf("party 5;party 6;");
        due("the minute at first", x.count(9), 0);
        x.come(1);
        x.rest(7);
        x.come(0);
        due("its party", x.visit(0, 0), 1);
        due("in the first minute", x.visit(0, 1), 0);
        due("its party", x.visit(1, 0), 0);
        due("behind seven", x.visit(1, 1), 7);
        x.load(0);
        turn(x, 8);
        x.empty();
        due("it stays with one that is gone", x.visit(0, 1), 0);
        due("it stays with one that is gone", x.visit(0, 0), 1);
    }

    @Says(in = "Terms 2", words = "waits, or sits in a CAR, or is gone.")
    static void t2_visitWaitsOrSitsOrIsGone() {
        GreatWheel x = wheelOf("cars 4;party 5;");
        x.come(0);
        due("it waits", x.visit(0, 2), -1);
        due("it waits", x.waits(0), 0);
        due("nobody sits", x.count(10), 0);
        turn(x, 3);
        x.load(0);
        due("it sits", x.visit(0, 2), 3);
        due("it waits no more", x.waits(0), -1);
        due("one sits", x.count(10), 1);
        due("there", x.car(3, 5), 0);
        turn(x, 4);
        due("it sits", x.visit(0, 2), 3);
        x.empty();
        due("it is gone", x.visit(0, 2), -2);
        due("it doesn't wait", x.waits(0), -1);
        due("nobody sits", x.count(10), 0);
        due("nobody there", x.car(3, 5), -1);
    }

    @Says(in = "Terms 2", words = "Its ROUNDS: how often its CAR came to the FOOT since.")
    static void t2_rounds() {
        for (int cars : CARS) {
            GreatWheel x = wheelOf("cars " + cars + ";seats 3;bears 999;party 5 rides 9;");
            come(x, 0, 0);
            turn(x, cars);
            due("none, as it waits", x.visit(0, 3), 0);
            x.load(0);
            due("its car is there already", x.visit(0, 3), 0);
            for (int n = 1; n <= 3 * cars; n++) {
                turn(x, 1);
                due("rounds behind " + n + " turns of " + cars, x.visit(0, 3), n / cars);
            }
            x.load(1);
            due("rounds since it sits", x.visit(1, 3), 0);
            turn(x, cars);
            due("rounds since it sits", x.visit(1, 3), 1);
            due("rounds of the other", x.visit(0, 3), 4);
        }
    }

    @Says(in = "Terms 2", words = "It is DONE, if these are its rides or more.")
    static void t2_doneByRides() {
        for (int rides = 1; rides <= 9; rides++) {
            GreatWheel x = wheelOf("cars 4;bears 999;party 5 rides " + rides + ";");
            seat(x, 0);
            for (int round = 0; round <= rides + 1; round++) {
                due("done behind " + round + " of " + rides, x.car(0, 2), round >= rides ? 1 : 0);
                due("empty may be", x.may(1), round >= rides ? 0 : 1);
                turn(x, 4);
            }
        }
    }

    // ---- lean

    @Says(in = "Terms 2", words = "LOAD of a CAR: all WEIGHTS in it, and its sandbags.")
    static void t2_loadOfACar() {
        GreatWheel x = wheelOf("cars 4;seats 6;bears 999;bag 13;party 50 61 72;party 8 rides 2;");
        due("an empty car", x.car(0, 1), 0);
        x.bag(0, 3);
        due("three bags", x.car(0, 1), 39);
        seat(x, 0);
        due("a party too", x.car(0, 1), 39 + 183);
        seat(x, 1);
        due("two parties too", x.car(0, 1), 39 + 183 + 8);
        come(x, 0);
        due("who waits is in no car", x.car(0, 1), 39 + 183 + 8);
        due("another car", x.car(1, 1), 0);
        turn(x, 4);
        x.empty();
        due("who is gone is in no car", x.car(0, 1), 39 + 8);
        x.bag(0, 0);
        due("no bags", x.car(0, 1), 8);
    }

    @Says(in = "Terms 2", words = "LEAN with some FOOT: the sum over all CARS of LOAD times LEVER.")
    static void t2_leanIsASumOverAllCars() {
        for (int cars : CARS) {
            GreatWheel x = wheelOf("cars " + cars + ";bears 999;bag 3;party 17;");
            int[] load = new int[cars];
            for (int car = 0; car < cars; car++) {
                x.bag(car, car * car % 10);
                load[car] = 3 * (car * car % 10);
            }
            seat(x, 0);
            load[0] += 17;
            for (int foot = 0; foot < cars; foot++) {
                int sum = 0;
                for (int car = 0; car < cars; car++) {
                    sum += load[car] * LEVER[Math.floorMod(car - foot, cars) * 24 / cars];
                }
                due("lean(" + foot + ") of " + cars, x.lean(foot), sum);
            }
        }
    }

    @Says(in = "Terms 2", words = "WORST: what LEAN may be at most (without its sign) as guessed: LEAN without its"
        + " sign, and for each guest off times LEVER without its sign.")
    static void t2_worst() {
        GreatWheel x = wheelOf("cars 12;seats 6;bears 999;bag 2;party 50 30 off 7;party 10 off 50;party 9;");
        seat(x, 0);
        turn(x, 1);
        seat(x, 1, 2);
        x.bag(3, 4);
        int[] load = {80, 19, 0, 8, 0, 0, 0, 0, 0, 0, 0, 0};
        int[] guess = {14, 50, 0, 0, 0, 0, 0, 0, 0, 0, 0, 0};
        for (int foot = 0; foot < 12; foot++) {
            int lean = 0;
            int more = 0;
            for (int car = 0; car < 12; car++) {
                int lever = LEVER[Math.floorMod(car - foot, 12) * 2];
                lean += load[car] * lever;
                more += guess[car] * Math.abs(lever);
            }
            due("worst(" + foot + ")", x.worst(foot), Math.abs(lean) + more);
        }
        // Of three in a car one by one leaves: each takes its own guesses along.
        GreatWheel y = wheelOf("cars 4;seats 6;bears 999;party 10 off 1;party 20 20 off 20 rides 2;party 40 off 3 rides 3;");
        seat(y, 0, 1, 2);
        int[] left = {9000 + 100 + 4000 + 300, 8000 + 4000 + 300, 4000 + 300, 0};
        for (int gone = 0; gone <= 3; gone++) {
            due("worst behind " + gone, y.worst(1), left[gone]);
            turn(y, 4);
            due("one leaves", y.empty(), gone < 3 ? 1 : -1);
        }
    }

    @Says(in = "Terms 2", words = "It leans TOO FAR, if LEAN without its sign is above 100 times bears.")
    static void t2_tooFarIsAbove100TimesBears() {
        for (int bears : new int[] {1, 2, 50, 99}) {
            // A bag at lever 100 or at -100 behind a turn; one of weight 1 more in the same car.
            for (int car : new int[] {0, 2}) {
                GreatWheel x = wheelOf("cars 4;bears " + bears + ";bag " + bears + ";");
                x.bag(car, 1);
                due("lean", Math.abs(x.lean(1)), 100 * bears);
                due("just so far", x.may(0), 0);
                GreatWheel y = wheelOf("cars 4;bears " + bears + ";bag " + (bears == 99 ? 99 : bears + 1) + ";");
                y.bag(car, bears == 99 ? 2 : 1);
                due("above it", y.may(0), 3);
            }
        }
        // Above it by less than one hundred.
        for (int more = 0; more <= 1; more++) {
            GreatWheel z = wheelOf("cars 12;bears 20;bag 40;party 1;");
            turn(z, 2);
            come(z, 0);
            due("the test's own load", more == 0 || z.load(0) == 0, true);
            turn(z, 9);
            z.bag(1, 1);
            due("lean(0)", z.lean(0), 2000 + 87 * more);
            due("a turn", z.may(0), 3 * more);
        }
    }

    @Says(in = "Terms 2", words = "TOP: a CAR with one of FEAR stands at the 24th 12.")
    static void t2_topIsAtThe24th12() {
        for (int cars : CARS) {
            GreatWheel x = wheelOf("cars " + cars + ";seats 6;bears 999;party 1;party 2 3 fear;");
            come(x, 0, 1);
            due("who waits stands nowhere", x.top(), false);
            x.load(0);
            x.load(1);
            for (int n = 0; n < 2 * cars; n++) {
                due("at the 24th " + x.car(0, 3), x.top(), x.car(0, 3) == 12);
                turn(x, 1);
            }
            x.empty();
            for (int n = 0; n < cars; n++) {
                due("who is gone stands nowhere", x.top(), false);
                turn(x, 1);
            }
            seat(x, 0);
            for (int n = 0; n < cars; n++) {
                due("one without fear", x.top(), false);
                turn(x, 1);
            }
        }
        // Of two of fear in a car one leaves, the other stays; then it leaves too.
        GreatWheel y = wheelOf("cars 4;seats 6;bears 999;party 1 fear;party 1 rides 2 fear;party 1 rides 3;");
        seat(y, 0, 1, 2);
        for (int round = 1; round <= 3; round++) {
            turn(y, 2);
            due("top in round " + round, y.top(), round < 3);
            turn(y, 2);
            due("one leaves", y.empty(), 1);
        }
    }

    // ---- acts

    @Says(in = "Terms 2", words = "ACTS: LOAD a VISIT (1 MINUTE): it sits in the CAR at the FOOT then.")
    static void t2_load() {
        GreatWheel x = wheelOf("cars 4;minutes 9;party 5;");
        come(x, 0, 0);
        due("load", x.load(1), 0);
        due("a minute", x.count(9), 1);
        due("its car", x.visit(1, 2), 0);
        due("the other waits", x.visit(0, 2), -1);
        turn(x, 2);
        due("load", x.load(0), 0);
        due("a minute behind two turns", x.count(9), 20);
        due("its car", x.visit(0, 2), 2);
    }

    @Says(in = "Terms 2", words = "It MAY not: 1 it doesn't wait; 2 with it there would be more guests than seats in"
        + " that CAR; 4 TOP.")
    static void t2_loadMayNot() {
        GreatWheel x = wheelOf("cars 4;seats 3;bears 1;party 1 1;party 1;party 1 fear;party 1 1 1 1;");
        due("1 no such visit", x.may(10), 1);
        come(x, 0, 0, 1, 2, 3);
        due("more guests than any car has seats", x.may(14), 2);
        due("it waits", x.may(10), 0);
        x.load(0);
        due("1 it sits", x.may(10), 1);
        due("2 two where one seat is free", x.may(11), 2);
        due("one where one seat is free", x.may(12), 0);
        x.load(2);
        due("2 one where no seat is free", x.may(13), 2);
        // Visits of the wheel before it are none.
        GreatWheel w = wheelOf("party 1;");
        come(w, 0, 0, 0);
        wheel(w, "party 1;");
        for (int v = 0; v < 4; v++) {
            due("1 no such visit", w.may(10 + v), 1);
            due("1 no such visit", w.load(v), 1);
        }
        // How far it leans matters to turns alone.
        GreatWheel z = wheelOf("cars 4;bears 1;party 200;");
        z.bag(1, 9);
        come(z, 0);
        due("it leans too far already", z.may(10), 0);
        GreatWheel y = wheelOf("cars 4;seats 3;bears 999;party 1 1;party 1 fear;");
        seat(y, 1);
        come(y, 0, 1);
        for (int n = 0; n < 4; n++) {
            due("4 top, one without fear", y.may(11), n == 2 ? 4 : 0);
            due("4 top, one of fear", y.may(12), n == 2 ? 4 : 0);
            turn(y, 1);
        }
        y.empty();
        due("1 it is gone", y.may(10), 1);
    }

    @Says(in = "Terms 2", words = "EMPTY (1 MINUTE): all that are DONE leave the CAR at the FOOT (they are gone).")
    static void t2_empty() {
        GreatWheel x = wheelOf("cars 4;seats 6;bears 999;minutes 1;party 1;party 2 3;party 4 rides 2;");
        seat(x, 0, 1, 2);
        turn(x, 1);
        seat(x, 0);
        turn(x, 3);
        due("two leave", x.empty(), 2);
        due("a minute", x.count(9), 4 + 4 + 1);
        due("gone", x.visit(0, 2), -2);
        due("gone", x.visit(1, 2), -2);
        due("not done: it stays", x.visit(2, 2), 0);
        due("in another car: it stays", x.visit(3, 2), 1);
        due("guests there", x.car(0, 0), 1);
        due("guests that sit", x.count(10), 2);
    }

    @Says(in = "Terms 2", words = "It MAY not: 1 nobody there is DONE; 4 TOP.")
    static void t2_emptyMayNot() {
        GreatWheel x = wheelOf("cars 4;seats 2;bears 1;party 1;party 1 fear;");
        due("1 nobody is there", x.may(1), 1);
        seat(x, 0);
        due("1 nobody there is done", x.may(1), 1);
        turn(x, 2);
        seat(x, 1);
        turn(x, 2);
        due("4 top", x.may(1), 4);
        due("it is top", x.top(), true);
        turn(x, 2);
        due("the other way about it may", x.may(1), 0);
        x.empty();
        turn(x, 2);
        due("no more top", x.may(1), 0);
        turn(x, 1);
        due("1 done ones sit elsewhere", x.may(1), 1);
        // How far it leans matters to turns alone.
        turn(x, 3);
        x.bag(1, 9);
        due("it leans too far", x.may(1), 0);
    }

    @Says(in = "Terms 2", words = "TURN (so many minutes): the next CAR (by number, round) comes to the FOOT.")
    static void t2_turn() {
        for (int cars : CARS) {
            GreatWheel x = wheelOf("cars " + cars + ";minutes 7;");
            for (int n = 1; n <= cars + 1; n++) {
                due("turn", x.turn(), 0);
                due("the foot", x.count(8), n == cars ? 0 : n == cars + 1 ? 1 : n);
                due("the minute", x.count(9), 7 * n);
            }
        }
    }

    @Says(in = "Terms 2", words = "It MAY not: 3 it would lean TOO FAR then.")
    static void t2_turnMayNot() {
        GreatWheel x = wheelOf("cars 4;bears 50;bag 10;");
        x.bag(0, 5);
        due("just so far", x.may(0), 0);
        x.bag(0, 6);
        due("3 with minus", x.may(0), 3);
        x.bag(0, 0);
        x.bag(2, 6);
        due("3 with plus", x.may(0), 3);
        x.bag(0, 1);
        due("evened", x.may(0), 0);
        // How it leans now doesn't matter, but how it would lean then.
        x.bag(0, 0);
        x.bag(2, 0);
        x.bag(1, 9);
        due("it leans too far now", Math.abs(x.lean(0)) > 5000, true);
        due("not then", x.may(0), 0);
        turn(x, 1);
        due("3 then", x.may(0), 3);
        // One of fear at the top doesn't hold it.
        GreatWheel y = wheelOf("cars 4;party 1 fear;");
        seat(y, 0);
        turn(y, 2);
        due("it is top", y.top(), true);
        due("a turn may be", y.may(0), 0);
        // As guessed it may lean too far.
        GreatWheel z = wheelOf("cars 4;bears 10;party 10 off 50;");
        seat(z, 0);
        due("guesses don't matter", z.may(0), 0);
    }

    @Says(in = "Terms 2", words = "Of several the least. 0: it MAY.")
    static void t2_leastOfSeveral() {
        GreatWheel x = wheelOf("cars 4;seats 2;bears 999;party 1 fear;party 1 1;");
        seat(x, 1);
        turn(x, 2);
        seat(x, 0);
        turn(x, 2);
        come(x, 0, 1);
        due("top", x.top(), true);
        due("load of one that sits: 1, 2 and 4", x.may(10), 1);
        due("load of none: 1 and 4", x.may(14), 1);
        due("load of one guest: 2 and 4", x.may(12), 2);
        due("load of two guests: 2 and 4", x.may(13), 2);
        due("empty: 4 alone", x.may(1), 4);
        due("turn: 0", x.may(0), 0);
        turn(x, 1);
        due("load: 0", x.may(12), 0);
        due("empty: 1 alone", x.may(1), 1);
        GreatWheel y = wheelOf("cars 4;seats 2;bears 999;party 1 fear;");
        seat(y, 0);
        turn(y, 2);
        come(y, 0);
        due("empty: 1 and 4", y.may(1), 1);
        due("load: 4 alone", y.may(11), 4);
        due("load of one that sits: 1 and 4", y.may(10), 1);
    }

    @Says(in = "Terms 2", words = {"JUDGED: numbers of a TRAY are ACTS, one behind the other, from what is now (nothing"
        + " stays):", "0 TURN, 1 EMPTY, 10 and v: LOAD of VISIT v;"})
    static void t2_judged() {
        GreatWheel x = wheelOf("cars 4;minutes 1;bears 999;party 30;party 40;");
        come(x, 1, 0);
        turn(x, 1);
        put(x, 0, 0);
        due("lean of a turn alone", x.judge(0, 3), 0);
        put(x, 0, 11, 0);
        due("guests of load, turn", x.judge(0, 2), 1);
        due("lean of load, turn", x.judge(0, 3), -3000);
        put(x, 0, 10, 0);
        due("lean of the other's load, turn", x.judge(0, 3), -4000);
        put(x, 0, 11, 0, 0, 0, 0, 10, 1);
        due("all may be", x.judge(0, 0), -1);
        due("guests behind empty", x.judge(0, 2), 1);
        due("nothing stays: the foot", x.count(8), 1);
        due("nothing stays: the minute", x.count(9), 1);
        due("nothing stays: guests", x.count(10), 0);
        due("nothing stays: who waits", x.waits(1), 1);
        due("nothing stays: rounds", x.visit(1, 3), 0);
        due("nothing stays: load", x.car(1, 1), 0);
    }

    @Says(in = "Terms 2", words = "the first that MAY not be (another number can't be: 1).")
    static void t2_judgedFirstThatMayNotBe() {
        GreatWheel x = wheelOf("cars 4;bears 999;party 30;");
        come(x, 0);
        put(x, 0, 0, 1, 0, 1);
        due("the first of two", x.judge(0, 0), 1);
        due("by what", x.judge(0, 1), 1);
        long[] others = {-1, 2, 3, 4, 5, 6, 7, 8, 9, 70, 71, 255, 1000, 1L << 32, (1L << 32) + 1, (1L << 32) + 10,
            Integer.MAX_VALUE, Integer.MIN_VALUE, Long.MAX_VALUE, Long.MIN_VALUE, Long.MIN_VALUE + 10};
        for (long other : others) {
            put(x, 0, 0, other, 0);
            due("the place of " + other, x.judge(0, 0), 1);
            due("by what of " + other, x.judge(0, 1), 1);
        }
        for (int other : new int[] {-1, 2, 5, 9, 11, 69, 70, LEAST, LEAST + 10, GREATEST}) {
            due("may(" + other + ")", x.may(other), 1);
        }
        due("may(10)", x.may(10), 0);
    }
}
