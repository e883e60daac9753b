/** The Terms behind "==== 3.": what is sought, the rule, days, trays and images. */
final class TermsThreeSentences extends Sentences {
    private TermsThreeSentences() {
    }

    // ---- EMPTYING

    private static void dueEmptied(GreatWheel x, int turns, int... cars) {
        due("empties(-1)", x.empties(-1), turns);
        for (int i = 0; i < cars.length; i++) {
            due("empties(" + i + ")", x.empties(i), cars[i]);
        }
        due("empties(" + cars.length + ")", x.empties(cars.length), -1);
    }

    @Says(in = "Terms 3", words = "EMPTYING: all VISITS are let out of the CAR at the FOOT at once (DONE or not)")
    static void t3_emptyingLetsAllOutAtOnce() {
        GreatWheel x = wheelOf("cars 4;seats 6;bears 999;party 5 rides 9;party 5;");
        seat(x, 0, 1, 0);
        dueEmptied(x, 0, 0);
        turn(x, 4);
        due("one is done, two are not", x.car(0, 2), 1);
        dueEmptied(x, 0, 0);
        turn(x, 1);
        seat(x, 0, 1);
        dueEmptied(x, 3, 1, 0);
    }

    @Says(in = "Terms 3", words = "where somebody sits there and not TOP;")
    static void t3_emptyingWhereSomebodySitsAndNotTop() {
        GreatWheel x = wheelOf("cars 4;bears 999;party 5 fear;party 5;");
        dueEmptied(x, 0);
        x.bag(1, 3);
        come(x, 1);
        dueEmptied(x, 0);
        x.load(0);
        turn(x, 1);
        dueEmptied(x, 3, 0);
        // Car 0 can't be let out ahead of one of fear over against it.
        turn(x, 1);
        seat(x, 0);
        turn(x, 2);
        due("top", x.top(), true);
        dueEmptied(x, 4, 2, 0);
        turn(x, 2);
        dueEmptied(x, 2, 2, 0);
        // One of fear at the foot holds nobody back.
        GreatWheel z = wheelOf("cars 4;seats 2;bears 999;party 5 fear;party 5;");
        seat(z, 1);
        turn(z, 2);
        seat(z, 1);
        seat(z, 0);
        dueEmptied(z, 2, 2, 0);
    }

    @Says(in = "Terms 3", words = "TURNS that MAY be:")
    static void t3_emptyingByTurnsThatMayBe() {
        GreatWheel x = wheelOf("cars 4;bears 50;bag 10;party 50;");
        seat(x, 0);
        turn(x, 1);
        dueEmptied(x, 3, 0);
        x.bag(0, 1);
        // The next turn brings car 0 to the top, the one behind it to where it leans by 60.
        dueEmptied(x, -1);
        x.bag(2, 1);
        dueEmptied(x, 3, 0);
        // Too far with minus: 60 in car 0 would lean by minus 60 with car 1 at the foot.
        GreatWheel y = wheelOf("cars 4;bears 50;bag 10;party 10;");
        turn(y, 1);
        seat(y, 0);
        turn(y, 3);
        y.bag(0, 5);
        dueEmptied(y, 1, 1);
        y.bag(0, 6);
        dueEmptied(y, -1);
        // Too far with car 0 at the foot, by bags.
        y.bag(0, 0);
        turn(y, 1);
        y.empty();
        turn(y, 2);
        seat(y, 0);
        turn(y, 3);
        dueEmptied(y, 1, 3);
        turn(y, 1);
        seat(y, 0);
        turn(y, 1);
        seat(y, 0);
        turn(y, 3);
        dueEmptied(y, 1, 3, 0);
        // Two of 10 in car 3 hold against 60 in car 1, not against 80.
        y.bag(1, 6);
        dueEmptied(y, 4, 0, 3);
        y.bag(1, 8);
        dueEmptied(y, -1);
        // Too far with car 0 at the foot, by guests.
        GreatWheel z = wheelOf("cars 4;bears 50;bag 10;party 60;");
        z.bag(3, 6);
        turn(z, 1);
        seat(z, 0);
        turn(z, 2);
        dueEmptied(z, 2, 1);
        z.bag(3, 0);
        dueEmptied(z, -1);
    }

    @Says(in = "Terms 3", words = "the fewest TURNS till nobody sits;")
    static void t3_emptyingWithTheFewestTurns() {
        GreatWheel x = wheelOf("cars 4;seats 6;bears 50;bag 10;party 60;");
        seat(x, 0);
        x.bag(2, 6);
        turn(x, 2);
        x.bag(2, 0);
        seat(x, 0);
        // 60 in car 0 and in car 2: with one let out the other leans too far.
        dueEmptied(x, -1);
        // With a bag in car 0 its guests have to get out first, though car 2 is at the foot.
        x.bag(0, 1);
        dueEmptied(x, 4, 0, 2);
        x.bag(0, 0);
        x.bag(2, 1);
        dueEmptied(x, 2, 2, 0);
        for (int cars : new int[] {4, 6, 8, 12}) {
            for (int car = 0; car < cars; car++) {
                GreatWheel z = wheelOf("cars " + cars + ";bears 999;party 10;");
                turn(z, car);
                seat(z, 0);
                for (int n = 0; n < cars; n++) {
                    dueEmptied(z, n == 0 ? 0 : cars - n, car);
                    turn(z, 1);
                }
            }
        }
        GreatWheel y = wheelOf("cars 12;seats 1;bears 999;party 10;");
        for (int car = 0; car < 12; car++) {
            seat(y, 0);
            turn(y, 1);
        }
        dueEmptied(y, 11, 0, 1, 2, 3, 4, 5, 6, 7, 8, 9, 10, 11);
        turn(y, 5);
        dueEmptied(y, 11, 5, 6, 7, 8, 9, 10, 11, 0, 1, 2, 3, 4);
    }

    @Says(in = "Terms 3", words = "of like ones the first (letting out ahead of a TURN).")
    static void t3_emptyingLetsOutAheadOfATurn() {
        // Car 0 is shut till car 2 is let out, so it needs five turns: car 3 could get out at once or behind four.
        GreatWheel x = wheelOf("cars 4;bears 999;party 5 fear;party 5;");
        seat(x, 1);
        turn(x, 2);
        seat(x, 0);
        turn(x, 1);
        seat(x, 1);
        dueEmptied(x, 5, 3, 2, 0);
    }

    @Says(in = "Terms 3", words = "the fewest TURNS till nobody sits;")
    static void t3_emptyingFromWhatIsNow() {
        // What an earlier emptying found is of no weight for a later one.
        GreatWheel x = wheelOf("cars 4;bears 999;party 5;");
        seat(x, 0);
        dueEmptied(x, 0, 0);
        turn(x, 1);
        seat(x, 0);
        dueEmptied(x, 3, 1, 0);
        turn(x, 3);
        x.empty();
        dueEmptied(x, 1, 1);
        turn(x, 1);
        x.empty();
        dueEmptied(x, 0);
        turn(x, 1);
        seat(x, 0);
        turn(x, 1);
        dueEmptied(x, 3, 2);
    }

    // ---- FILLING

    private static void dueFilled(GreatWheel x, int t, int guests, int turns, int... stops) {
        due("fills(" + t + ", -1)", x.fills(t, -1), guests);
        due("fills(" + t + ", -2)", x.fills(t, -2), turns);
        for (int i = 0; i < 6; i++) {
            due("fills(" + t + ", " + i + ")", x.fills(t, i), i < stops.length ? stops[i] : -1);
        }
    }

    @Says(in = "Terms 3", words = "FILLING in t TURNS (0 to 7):")
    static void t3_fillingInUpTo7Turns() {
        GreatWheel x = wheelOf("cars 12;seats 1;bears 999;party 5;");
        turn(x, 4);
        come(x, 0, 0, 0, 0, 0, 0);
        for (int t = 0; t <= 7; t++) {
            due("fills(" + t + ", -1)", x.fills(t, -1), Math.min(t + 1, 6));
            due("fills(" + t + ", -2)", x.fills(t, -2), Math.min(t, 5));
        }
        // With two full cars at the foot the last of six gets in behind seven turns.
        seat(x, 0);
        turn(x, 1);
        seat(x, 0);
        turn(x, 11);
        dueFilled(x, 7, 6, 7, 2, 3, 4, 5, 6, 7);
        dueFilled(x, 6, 5, 6, 2, 3, 4, 5, 6);
        dueFilled(x, 1, 0, 0);
        dueThrow("t 8", IAE, () -> x.fills(8, -1));
        dueThrow("t -1", IAE, () -> x.fills(-1, -1));
    }

    @Says(in = "Terms 3", words = "of the first 6 VISITS that wait any are put into the CAR at the FOOT, now and"
        + " behind each TURN")
    static void t3_fillingWithTheFirstSixThatWait() {
        GreatWheel x = wheelOf("cars 4;seats 6;bears 999;party 5;party 5 5;");
        dueFilled(x, 7, 0, 0);
        come(x, 0, 0, 0, 0, 0, 0, 1, 1);
        // The seventh and eighth have more guests, but are none of the six.
        dueFilled(x, 0, 6, 0, 0, 0, 0, 0, 0, 0);
        dueFilled(x, 7, 6, 0, 0, 0, 0, 0, 0, 0);
        x.load(0);
        x.load(3);
        // Now visits 1, 2, 4, 5, 6 and 7 are the first six, four seats are free here.
        dueFilled(x, 0, 4, 0, 0, 0, 0, 0, -1, -1);
        dueFilled(x, 1, 8, 1, 0, 0, 0, 0, 1, 1);
        GreatWheel y = wheelOf("cars 4;seats 2;bears 999;party 5;party 5 5;");
        come(y, 1, 0, 1, 0);
        dueFilled(y, 3, 6, 2, 0, 1, 2, 1);
        // Who waited for the wheel before it waits no more.
        wheel(y, "cars 4;seats 2;party 5;");
        dueFilled(y, 7, 0, 0);
        // The last of sixty visits is one of them too.
        for (int v = 0; v < 60; v++) {
            y.come(0);
        }
        for (int v = 0; v < 59; v++) {
            y.load(v);
            if (v % 2 == 1) {
                turn(y, 4);
                y.empty();
            }
        }
        due("who waits", y.waits(0), 59);
        dueFilled(y, 7, 1, 0, 0);
    }

    @Says(in = "Terms 3", words = "(LOADS that MAY be; TURNS that MAY be; nobody leaves):")
    static void t3_fillingByLoadsAndTurnsThatMayBe() {
        // Loads: no more than seats.
        GreatWheel x = wheelOf("cars 4;seats 2;bears 999;party 5 5 5;party 5;");
        come(x, 0, 1);
        dueFilled(x, 7, 1, 0, -1, 0);
        // Loads: not at the top.
        GreatWheel y = wheelOf("cars 4;seats 1;bears 999;party 5 fear;party 5;");
        seat(y, 0);
        come(y, 1, 1, 1);
        dueFilled(y, 2, 1, 1, 1);
        dueFilled(y, 7, 2, 3, 1, 3);
        // Turns: not where it would lean too far.
        GreatWheel z = wheelOf("cars 4;seats 1;bears 20;party 25;party 20;party 15;");
        come(z, 0, 1, 2);
        dueFilled(z, 0, 1, 0, 0);
        dueFilled(z, 1, 2, 1, 1, 0, -1);
        dueFilled(z, 2, 3, 2, 2, 0, 1);
        // Just so far is not too far.
        GreatWheel w = wheelOf("cars 4;seats 1;bears 20;party 20;party 21;");
        come(w, 0, 0);
        dueFilled(w, 1, 2, 1, 0, 1);
        wheel(w, "cars 4;seats 1;bears 20;party 20;party 21;");
        come(w, 1, 1);
        dueFilled(w, 1, 1, 0, 0, -1);
        // Loads: one of fear that gets in on the way shuts the car over against it.
        GreatWheel f = wheelOf("cars 4;seats 1;bears 999;party 5 fear;party 5;");
        come(f, 0, 1, 1, 1);
        dueFilled(f, 1, 2, 1, 0, 1);
        dueFilled(f, 2, 3, 2, 1, 0, 2, -1);
        dueFilled(f, 3, 4, 3, 2, 0, 1, 3);
        GreatWheel g = wheelOf("cars 4;seats 2;bears 999;party 5 fear;party 5 5;");
        come(g, 0, 0, 1, 1);
        dueFilled(g, 2, 6, 2, 1, 1, 0, 2);
        // Turns: all that got in together weigh together.
        GreatWheel h = wheelOf("cars 4;seats 2;bears 20;party 15;");
        come(h, 0, 0, 0);
        dueFilled(h, 1, 3, 1, 0, 1, 1);
        // Turns: what is there already weighs too, for and against it.
        GreatWheel k = wheelOf("cars 4;seats 1;bears 20;bag 21;party 5;party 30;");
        come(k, 0, 0);
        k.bag(2, 1);
        dueFilled(k, 1, 2, 1, 0, 1);
        k.bag(0, 1);
        dueFilled(k, 1, 2, 1, 0, 1);
        k.bag(2, 0);
        dueFilled(k, 7, 1, 0, 0);
        GreatWheel m = wheelOf("cars 4;seats 1;bears 20;bag 20;party 30;party 5;");
        come(m, 0, 1);
        m.bag(2, 1);
        dueFilled(m, 1, 2, 1, 0, 1);
        m.bag(2, 0);
        dueFilled(m, 1, 2, 1, 1, 0);
        // Nobody leaves, not even who is done.
        GreatWheel v = wheelOf("cars 4;seats 1;bears 999;party 5;");
        for (int car = 0; car < 4; car++) {
            seat(v, 0);
            turn(v, 1);
        }
        due("done at the foot", v.car(0, 2), 1);
        come(v, 0);
        dueFilled(v, 7, 0, 0);
    }

    @Says(in = "Terms 3", words = "the most guests that sit more at its end;")
    static void t3_fillingWithTheMostGuests() {
        GreatWheel x = wheelOf("cars 4;seats 3;bears 999;party 5;party 5 5;party 5 5 5;");
        // One guest first, but three at once are more; with a turn all get in.
        come(x, 0, 2);
        dueFilled(x, 0, 3, 0, -1, 0);
        dueFilled(x, 1, 4, 1, 0, 1);
        seat(x, 1);
        // Who sits already is none of them.
        dueFilled(x, 0, 1, 0, 0, -1);
        GreatWheel y = wheelOf("cars 4;seats 3;bears 999;party 5;party 5 5;party 5 5 5;");
        come(y, 1, 1, 0, 2);
        dueFilled(y, 0, 3, 0, 0, -1, 0, -1);
        dueFilled(y, 1, 6, 1, 0, -1, 0, 1);
        dueFilled(y, 2, 8, 2, 0, 1, 0, 2);
        // As heavy as one, but of two guests.
        GreatWheel z = wheelOf("cars 4;seats 2;bears 999;party 10;party 5 5;");
        come(z, 0, 1);
        dueFilled(z, 0, 2, 0, -1, 0);
        // Four at once may not be turned on from: one first, then the four.
        GreatWheel w = wheelOf("cars 4;seats 4;bears 20;party 10 10 10 10;party 5;");
        come(w, 0, 1);
        dueFilled(w, 0, 4, 0, 0, -1);
        dueFilled(w, 1, 5, 1, 1, 0);
    }

    @Says(in = "Terms 3", words = "of these by the fewest TURNS;")
    static void t3_fillingByTheFewestTurns() {
        // The first could get in at once, but then the second, of two guests, only behind two turns.
        GreatWheel x = wheelOf("cars 4;seats 2;bears 999;party 5;party 5 5;");
        turn(x, 1);
        seat(x, 0);
        turn(x, 3);
        come(x, 0, 1);
        dueFilled(x, 7, 3, 1, 1, 0);
        GreatWheel y = wheelOf("cars 4;seats 2;bears 10;party 10;party 11;");
        come(y, 0, 1);
        // Both get in here; then none need turn.
        dueFilled(y, 7, 2, 0, 0, 0);
        GreatWheel z = wheelOf("cars 4;seats 1;bears 10;party 11;party 10;");
        come(z, 0, 1);
        // With one turn: 10 first, as 11 may not be turned on from.
        dueFilled(z, 7, 2, 1, 1, 0);
        // Behind the last load come no more turns.
        GreatWheel w = wheelOf("cars 4;bears 999;party 10;");
        come(w, 0);
        dueFilled(w, 7, 1, 0, 0);
    }

    @Says(in = "Terms 3", words = "of these the first VISIT as early as can be, then the next one .. (not at all"
        + " behind all).")
    static void t3_fillingTheFirstAsEarlyAsCanBe() {
        GreatWheel x = wheelOf("cars 4;seats 2;bears 999;party 10;party 11;party 12 12;");
        come(x, 0, 2, 1);
        dueFilled(x, 1, 4, 1, 0, 1, 0);
        // The first as early as can be, though the two behind it come later by that.
        GreatWheel y = wheelOf("cars 4;seats 2;bears 999;party 10;party 11;party 12 12;");
        come(y, 2, 0, 1);
        dueFilled(y, 1, 4, 1, 0, 1, 1);
        // One seat for two: who comes first, and not at all is behind all.
        GreatWheel z = wheelOf("cars 4;seats 1;bears 999;party 10;party 11;");
        come(z, 0, 1);
        dueFilled(z, 0, 1, 0, 0, -1);
        GreatWheel v = wheelOf("cars 4;seats 1;bears 999;party 10;party 11;");
        come(v, 0, 1, 1);
        dueFilled(v, 1, 2, 1, 0, 1, -1);
        // 90 gets in late at best, but late is ahead of not at all; then 10 ahead of 50, 50 ahead of 20.
        GreatWheel w = wheelOf("cars 4;seats 1;bears 50;party 90;party 10;party 50;party 20;");
        come(w, 0, 1, 2, 3);
        dueFilled(w, 0, 1, 0, 0, -1, -1, -1);
        dueFilled(w, 1, 2, 1, 1, 0, -1, -1);
        dueFilled(w, 2, 3, 2, 2, 0, 1, -1);
        dueFilled(w, 3, 4, 3, 2, 1, 0, 3);
        // The first behind a turn, with the next one, and not the third at all: that is ahead of not the first at all.
        GreatWheel u = wheelOf("cars 4;seats 3;bears 20;party 15 15;party 2;party 2 2;party 2 2 2;");
        come(u, 0, 1, 2, 3);
        dueFilled(u, 1, 6, 1, 1, 1, -1, 0);
    }

    // ---- BAGS, BALLAST, SURE, ALIKE

    private static void dueRow(GreatWheel x, int w, int many, int... row) {
        int cars = x.count(1);
        due("ballast(" + w + ", -1)", x.ballast(w, -1), many);
        for (int car = 0; car < cars; car++) {
            int want = many < 0 ? -1 : car < row.length ? row[car] : 0;
            due("ballast(" + w + ", " + car + ")", x.ballast(w, car), want);
            if (w == 0) {
                due("bags(" + car + ")", x.bags(car), want);
            }
        }
        if (w == 0) {
            due("bags(-1)", x.bags(-1), many);
        }
    }

    @Says(in = "Terms 3", words = "BAGS: the fewest sandbags (0 to 4) put into CARS besides what there is, so that"
        + " with no CAR at the FOOT it leans TOO FAR;")
    static void t3_bagsAreTheFewest() {
        for (int many = 0; many <= 9; many++) {
            GreatWheel x = wheelOf("cars 4;bears 50;bag 10;party 50;");
            seat(x, 0);
            x.bag(0, many);
            dueRow(x, 0, many <= 4 ? many : -1, 0, 0, many);
        }
        GreatWheel x = wheelOf("cars 4;bears 50;bag 10;");
        x.bag(0, 9);
        dueRow(x, 0, 4, 0, 0, 4);
        x.bag(2, 3);
        dueRow(x, 0, 1, 0, 0, 1);
        for (int cars : new int[] {4, 6, 8, 12}) {
            GreatWheel y = wheelOf("cars " + cars + ";bears 1;bag 99;");
            dueRow(y, 0, 0);
            for (int car = 0; car < cars; car++) {
                y.bag(car, car == 0 ? 5 : 0);
            }
            dueRow(y, 0, -1);
            y.bag(cars / 2, 3);
            int[] row = new int[cars];
            row[cars / 2] = 2;
            dueRow(y, 0, 2, row);
        }
        // Not the present foot alone: it stands upright now, and leans with cars 1 and 3 at the foot.
        due("upright now", x.lean(0), 0);
        x.bag(1, 9);
        // Cars 0 and 2 lean by 60, cars 1 and 3 by 90.
        dueRow(x, 0, -1);
        x.bag(2, 4);
        dueRow(x, 0, 4, 0, 0, 0, 4);
    }

    @Says(in = "Terms 3", words = "of like ones the first row of how many by CARS (the most in CAR 0, then in CAR 1"
        + " ..).")
    static void t3_bagsAreTheFirstRow() {
        // One bag in car 3, 4 or 5 would do.
        GreatWheel x = wheelOf("cars 8;bears 60;bag 20;party 70;");
        seat(x, 0);
        dueRow(x, 0, 1, 0, 0, 0, 1);
        for (int car = 3; car <= 5; car++) {
            x.bag(car, 1);
            due("a bag in " + car + " would do", x.bags(-1), 0);
            x.bag(car, 0);
        }
        // The same wheel turned: cars 0, 1 and 7 would do.
        GreatWheel y = wheelOf("cars 8;bears 60;bag 20;party 70;");
        turn(y, 4);
        seat(y, 0);
        dueRow(y, 0, 1, 1);
        y.bag(1, 1);
        due("a bag in 1 would do", y.bags(-1), 0);
        // The most in car 0: two there are ahead of one there and one in car 1.
        GreatWheel z = wheelOf("cars 8;bears 43;bag 10;");
        z.bag(4, 6);
        dueRow(z, 0, 2, 2);
        z.bag(0, 1);
        z.bag(1, 1);
        due("one in car 0 and one in car 1 would do", z.bags(-1), 0);
    }

    @Says(in = "Terms 3", words = "BALLAST for w (0 to 1200): likewise the fewest sandbags (0 to 4), so that, whichever"
        + " one CAR had w more (or none), with no CAR at the FOOT it leans TOO FAR; of like ones the first row"
        + " likewise.")
    static void t3_ballast() {
        GreatWheel x = wheelOf("cars 4;bears 50;bag 10;party 30;");
        seat(x, 0);
        dueRow(x, 0, 0);
        dueRow(x, 20, 0);
        dueRow(x, 21, 1, 0, 0, 1);
        dueRow(x, 30, 1, 0, 0, 1);
        dueRow(x, 31, 2, 0, 0, 2);
        dueRow(x, 50, 3, 0, 0, 3);
        dueRow(x, 51, -1);
        dueRow(x, 1200, -1);
        // Any car: w may be over against the load as well.
        GreatWheel y = wheelOf("cars 4;bears 50;bag 10;");
        dueRow(y, 50, 0);
        dueRow(y, 51, -1);
        // Six cars have no lever above 87, so 50 bear 57 (4959) and no more (5046).
        GreatWheel z = wheelOf("cars 6;bears 50;bag 10;");
        dueRow(z, 57, 0);
        dueRow(z, 58, -1);
        GreatWheel v = wheelOf("cars 8;bears 999;");
        dueRow(v, 999, 0);
        dueRow(v, 1000, -1);
        // Where it leans too far with none more, w 0 asks for bags too.
        x.bag(0, 3);
        dueRow(x, 0, 1, 0, 0, 1);
        // The first row likewise: a bag in car 3, 4 or 5 would do.
        GreatWheel u = wheelOf("cars 8;bears 80;bag 20;party 70;");
        seat(u, 0);
        dueRow(u, 10, 0);
        dueRow(u, 20, 1, 0, 0, 0, 1);
        dueThrow("w 1201", IAE, () -> u.ballast(1201, -1));
        dueThrow("w -1", IAE, () -> u.ballast(-1, -1));
    }

    @Says(in = "Terms 3", words = "SURE: the first FOOT with which WORST is above 100 times bears.")
    static void t3_sure() {
        GreatWheel x = wheelOf("cars 4;bears 80;bag 1;party 70 off 10;");
        due("nobody there", x.sure(), -1);
        seat(x, 0);
        due("worst", x.worst(1), 8000);
        due("just 100 times bears", x.sure(), -1);
        x.bag(0, 1);
        due("above", x.sure(), 1);
        for (int n = 0; n < 4; n++) {
            due("the first of 1 and 3 wherever it stands", x.sure(), 1);
            turn(x, 1);
        }
        x.bag(0, 0);
        x.bag(1, 9);
        x.bag(3, 9);
        due("the lean alone is not above", x.sure(), -1);
        GreatWheel y = wheelOf("cars 12;bears 99;bag 99;");
        y.bag(4, 1);
        due("none", y.sure(), -1);
        y.bag(5, 1);
        due("with 0 at the foot 87 and 50 are above 99", y.sure(), 0);
        GreatWheel z = wheelOf("cars 12;bears 1;bag 1;");
        z.bag(3, 1);
        z.bag(8, 1);
        due("with 0 at the foot 100 less 87", z.lean(0), 13);
        due("with 1 at the foot 87 less 50", z.lean(1), 37);
        due("none", z.sure(), -1);
        z.bag(3, 2);
        due("200 less 87 is above 100", z.sure(), 0);
    }

    @Says(in = "Terms 3", words = "ALIKE to an IMAGE (with as many CARS): 1 if LOADS by CARS are the same, but turned"
        + " round (by how many it doesn't matter), 2 else if they are so mirrored, 0.")
    static void t3_alike() {
        for (int cars : new int[] {4, 6, 8, 12}) {
            GreatWheel x = wheelOf("cars " + cars + ";bag 10;");
            bags(x, 0, 1, 2, 3);
            x.image(0);
            for (int shift = 0; shift < cars; shift++) {
                bags(x, shift, 1, 2, 3);
                due("turned by " + shift, x.alike(0), 1);
                bags(x, shift, 3, 2, 1);
                due("mirrored and turned by " + shift, x.alike(0), 2);
                bags(x, shift, 1, 2, 2);
                due("others, " + shift, x.alike(0), 0);
                bags(x, shift, 1, 3, 2);
                due("the same in another order, " + shift, x.alike(0), 0);
            }
        }
        GreatWheel y = wheelOf("cars 6;bears 999;bag 10;party 10;party 20;");
        bags(y, 0, 1, 2, 1);
        y.image(1);
        bags(y, 2, 1, 2, 1);
        due("its own mirror: 1 is ahead of 2", y.alike(1), 1);
        // Loads alone matter, whether of guests or of bags, wherever the foot is.
        bags(y, 0, 0, 0, 0);
        turn(y, 3);
        seat(y, 0);
        turn(y, 1);
        seat(y, 1);
        y.bag(5, 1);
        due("guests for bags", y.alike(1), 1);
        y.bag(5, 0);
        due("another load", y.alike(1), 0);
        GreatWheel z = new GreatWheel();
        z.image(2);
        z.turn();
        due("empty ones", z.alike(2), 1);
        wheel(z, "bag 99;");
        due("another wheel with as many cars", z.alike(2), 1);
        z.bag(7, 1);
        due("one load", z.alike(2), 0);
        z.image(2);
        wheel(z, "bag 33;");
        z.bag(2, 3);
        due("loads, not bags", z.alike(2), 1);
        wheel(z, "cars 12;");
        dueThrow("not as many cars", ISE, () -> z.alike(2));
    }

    /** All other cars have none. */
    private static void bags(GreatWheel x, int first, int... many) {
        int cars = x.count(1);
        for (int n = 0; n < cars; n++) {
            x.bag((first + n) % cars, n < many.length ? many[n] : 0);
        }
    }

    // ---- THE RULE

    @Says(in = "Terms 3", words = "A STEP's ACT: empty, turn: these; load: the first VISIT that MAY be;")
    static void t3_actsEmptyTurnLoad() {
        GreatWheel x = wheelOf("cars 4;seats 2;bears 999;minutes 3;party 5 5 5;party 5 5;party 5;",
                "empty;load;turn;");
        come(x, 0, 2, 1, 2);
        due("load", x.go(), 1);
        due("the first has too many guests, the second is let in", x.visit(1, 2), 0);
        due("a minute", x.count(9), 1);
        due("load", x.go(), 1);
        due("the third doesn't fit here, the fourth is let in", x.visit(3, 2), 0);
        due("turn", x.go(), 2);
        due("the foot", x.count(8), 1);
        due("three minutes", x.count(9), 5);
        due("load", x.go(), 1);
        due("the third", x.visit(2, 2), 1);
        for (int n = 0; n < 3; n++) {
            due("turn", x.go(), 2);
        }
        due("empty", x.go(), 0);
        due("two are gone", x.count(10), 2);
        due("a minute", x.count(9), 5 + 1 + 9 + 1);
    }

    @Says(in = "Terms 3", words = "hurry: two TURNS, round: as many as there are CARS, each of which MAY be when it"
        + " comes (else as many as MAY).")
    static void t3_actsHurryRound() {
        for (int cars : new int[] {4, 6, 8, 12}) {
            GreatWheel x = wheelOf("cars " + cars + ";bears 999;minutes 2;party 10 rides 3;", "hurry;");
            seat(x, 0);
            due("hurry", x.go(), 0);
            due("two turns", x.count(8), 2);
            due("their minutes", x.count(9), 5);
            rule(x, "round;");
            due("round", x.go(), 0);
            due("all round", x.count(8), 2);
            due("their minutes", x.count(9), 5 + 2 * cars);
            due("a round", x.visit(0, 3), 1);
        }
        // With eight cars 60 lean by 42.6 behind a turn, by 60 behind the next.
        for (String act : new String[] {"hurry;", "round;"}) {
            GreatWheel y = wheelOf("cars 8;bears 45;minutes 1;party 60;", act);
            seat(y, 0);
            due("as many as may", y.go(), 0);
            due("one turn", y.count(8), 1);
            due("its minute", y.count(9), 2);
            due("none may", y.go(), -1);
            due("no turn", y.count(8), 1);
        }
        // Three turns of a round may be, the fourth not.
        GreatWheel z = wheelOf("cars 8;bears 45;minutes 1;", "round;");
        turn(z, 3);
        z.bag(1, 3);
        due("round", z.go(), 0);
        due("till the bags would lean by 60", z.count(8), 6);
    }

    @Says(in = "Terms 3", words = "again: it is done so often, as long as it MAY (by the ACT's first TURN).")
    static void t3_again() {
        GreatWheel x = wheelOf("cars 4;seats 3;bears 999;minutes 1;party 10;",
                "again 4 load if waits 5;again 2 load if late 9;again 3 turn;");
        come(x, 0, 0, 0, 0, 0, 0);
        due("load", x.go(), 0);
        due("three of four: then no seat is free", x.count(10), 3);
        due("three minutes", x.count(9), 3);
        due("turn", x.go(), 2);
        due("three times", x.count(8), 3);
        due("turn", x.go(), 2);
        due("three times", x.count(8), 2);
        due("load", x.go(), 1);
        due("twice, though there is room", x.count(10), 5);
        // Behind the first turn of an act that may not be, it is done no more.
        GreatWheel y = wheelOf("cars 8;bears 45;minutes 1;party 60;", "again 9 hurry;");
        seat(y, 0);
        due("hurry", y.go(), 0);
        due("one turn in all", y.count(8), 1);
        due("no minute for those that may not be", y.count(9), 2);
        GreatWheel z = wheelOf("cars 4;bears 999;minutes 1;party 60;", "again 3 hurry;again 2 empty;");
        due("hurry", z.go(), 0);
        due("six turns", z.count(8), 2);
        due("six minutes", z.count(9), 6);
        rule(z, "again 5 round;");
        due("round", z.go(), 0);
        due("twenty minutes", z.count(9), 26);
        rule(z, "again 9 empty;");
        seat(z, 0);
        turn(z, 4);
        int minute = z.count(9);
        due("empty", z.go(), 0);
        due("once, as then nobody is done", z.count(9), minute + 1);
    }

    /** Just at its number a fact is so, above it not. */
    private static void dueFact(GreatWheel x, String fact, int most) {
        for (int n : new int[] {0, most - 1, most, most + 1, 999}) {
            if (n >= 0 && n <= 999) {
                rule(x, "turn if " + fact + " " + n + ";");
                due(fact + " " + n, x.so(0), n <= most);
            }
        }
    }

    @Says(in = "Terms 3", words = "Facts: done: in the CAR at the FOOT N VISITS are DONE, or more;")
    static void t3_factDone() {
        GreatWheel x = wheelOf("cars 4;seats 6;bears 999;party 5 5;party 5 rides 2;");
        dueFact(x, "done", 0);
        seat(x, 0, 0, 1);
        dueFact(x, "done", 0);
        turn(x, 4);
        dueFact(x, "done", 2);
        turn(x, 1);
        dueFact(x, "done", 0);
        turn(x, 3);
        dueFact(x, "done", 3);
        x.empty();
        dueFact(x, "done", 0);
    }

    @Says(in = "Terms 3", words = "room: N seats are free there, or more;")
    static void t3_factRoom() {
        GreatWheel x = wheelOf("cars 4;seats 5;bears 999;party 5 5;party 5;");
        dueFact(x, "room", 5);
        seat(x, 0);
        dueFact(x, "room", 3);
        come(x, 0);
        dueFact(x, "room", 3);
        seat(x, 0, 1);
        dueFact(x, "room", 0);
        turn(x, 1);
        dueFact(x, "room", 5);
    }

    @Says(in = "Terms 3", words = "waits: N VISITS wait, or more;")
    static void t3_factWaits() {
        GreatWheel x = wheelOf("cars 4;seats 5;bears 999;party 5 5;");
        dueFact(x, "waits", 0);
        come(x, 0, 0, 0);
        dueFact(x, "waits", 3);
        x.load(1);
        dueFact(x, "waits", 2);
        turn(x, 4);
        x.empty();
        dueFact(x, "waits", 2);
        for (int v = 3; v < 60; v++) {
            come(x, 0);
        }
        dueFact(x, "waits", 59);
    }

    @Says(in = "Terms 3", words = "leans: LEAN without its sign is 100 N or more;")
    static void t3_factLeans() {
        GreatWheel x = wheelOf("cars 8;bears 999;bag 1;");
        dueFact(x, "leans", 0);
        x.bag(1, 1);
        // 71: less than 100.
        dueFact(x, "leans", 0);
        x.bag(1, 0);
        x.bag(2, 1);
        dueFact(x, "leans", 1);
        x.bag(2, 9);
        dueFact(x, "leans", 9);
        x.bag(6, 7);
        dueFact(x, "leans", 2);
        x.bag(2, 0);
        // -700, and -71 more.
        dueFact(x, "leans", 7);
        x.bag(7, 1);
        dueFact(x, "leans", 7);
        x.bag(7, 5);
        // -1055: with the foot that is now, not with another.
        dueFact(x, "leans", 10);
        turn(x, 2);
        // 7 at the top, 5 at 71.
        due("lean", x.lean(2), -5 * 71);
        dueFact(x, "leans", 3);
        GreatWheel y = wheelOf("cars 4;seats 6;bears 999;party 199 200 200 200;party 200;");
        seat(y, 0, 1);
        turn(y, 1);
        dueFact(y, "leans", 999);
        // 27 at lever 87 less 35 at lever 50: one less than 600.
        GreatWheel z = wheelOf("cars 12;bears 999;party 27;party 35;");
        turn(z, 2);
        seat(z, 0);
        turn(z, 5);
        seat(z, 1);
        turn(z, 5);
        due("lean", z.lean(0), 599);
        dueFact(z, "leans", 5);
    }

    @Says(in = "Terms 3", words = "late: the MINUTE is N or more;")
    static void t3_factLate() {
        GreatWheel x = wheelOf("cars 4;minutes 5;");
        dueFact(x, "late", 0);
        x.rest(1);
        dueFact(x, "late", 1);
        turn(x, 1);
        dueFact(x, "late", 6);
        x.rest(992);
        dueFact(x, "late", 998);
    }

    @Says(in = "Terms 3", words = "long: the first VISIT that waits came N MINUTES ago or more;")
    static void t3_factLong() {
        GreatWheel x = wheelOf("cars 4;bears 999;party 5;");
        rule(x, "turn if long 0;");
        due("long 0 when nobody waits", x.so(0), false);
        x.rest(3);
        come(x, 0);
        dueFact(x, "long", 0);
        x.rest(4);
        come(x, 0);
        dueFact(x, "long", 4);
        x.load(0);
        // The second came a minute ago.
        dueFact(x, "long", 1);
        come(x, 0);
        x.load(2);
        dueFact(x, "long", 2);
        turn(x, 1);
        x.load(1);
        rule(x, "turn if long 0;");
        due("long 0 when nobody waits any more", x.so(0), false);
    }

    @Says(in = "Terms 3", words = "full: N guests sit, or more;")
    static void t3_factFull() {
        GreatWheel x = wheelOf("cars 4;seats 6;bears 999;party 5 5 5;party 5;");
        dueFact(x, "full", 0);
        come(x, 0);
        dueFact(x, "full", 0);
        x.load(0);
        dueFact(x, "full", 3);
        turn(x, 1);
        seat(x, 1, 1);
        dueFact(x, "full", 5);
        turn(x, 3);
        x.empty();
        dueFact(x, "full", 2);
    }

    @Says(in = "Terms 3", words = "top: TOP.")
    static void t3_factTop() {
        GreatWheel x = wheelOf("cars 6;bears 999;party 5 fear;", "turn if top;turn if not top;");
        seat(x, 0);
        for (int n = 0; n < 6; n++) {
            due("top", x.so(0), n == 3);
            due("not top", x.so(1), n != 3);
            turn(x, 1);
        }
    }

    @Says(in = "Terms 3", words = "GOING by THE RULE: the first STEP whose TEST is so (or that has none) and whose ACT"
        + " MAY be (for load: of some VISIT) is done;")
    static void t3_goingByTheFirstStep() {
        GreatWheel x = wheelOf("cars 4;seats 1;bears 40;party 30;party 60;",
                "empty;turn if late 99;load if waits 2;load if waits 1;turn;turn;");
        due("turn, as nobody waits", x.go(), 4);
        come(x, 0);
        due("the test of 2 is not so", x.go(), 3);
        come(x, 1, 0);
        due("no seat: 2 may not be", x.go(), 4);
        due("the first of two loads", x.go(), 2);
        due("visit 1", x.visit(1, 2), 2);
        due("it would lean too far", x.may(0), 3);
        due("none may", x.go(), -1);
        x.rest(99);
        due("so, but it may not be", x.go(), -1);
        x.bag(0, 2);
        due("now it may", x.go(), 1);
        // load of some visit: the first one never fits.
        GreatWheel y = wheelOf("cars 4;seats 1;party 5 5;party 5;", "load;");
        come(y, 0);
        due("none", y.go(), -1);
        come(y, 1);
        due("the second", y.go(), 0);
        due("it sits", y.visit(1, 2), 0);
    }

    @Says(in = "Terms 3", words = "without one a MINUTE goes by.")
    static void t3_goingWithoutAStep() {
        GreatWheel x = wheelOf("cars 4;seats 1;minutes 9;party 30;");
        due("no rule", x.go(), -1);
        due("a minute", x.count(9), 1);
        rule(x, "empty;load;turn if late 3;");
        due("none is so and may be", x.go(), -1);
        due("a minute", x.count(9), 2);
        due("the foot stays", x.count(8), 0);
    }

    // ---- a DAY

    @Says(in = "Terms 3", words = "A DAY by a SEED, of MINUTES (1 to 480) and come (0 to 100):")
    static void t3_dayBounds() {
        GreatWheel x = wheelOf("minutes 1;", "turn;");
        due("1 minute", x.day(1, 1, 0, 3), 1);
        due("480 minutes", x.day(1, 480, 100, 3), 480);
        due("least seed", x.day(LEAST, 5, 50, 3), 5);
        due("greatest seed", x.day(GREATEST, 5, 50, 3), 5);
        dueThrow("0 minutes", IAE, () -> x.day(1, 0, 50, 3));
        dueThrow("481 minutes", IAE, () -> x.day(1, 481, 50, 3));
        dueThrow("come -1", IAE, () -> x.day(1, 5, -1, 3));
        dueThrow("come 101", IAE, () -> x.day(1, 5, 101, 3));
    }

    @Says(in = "Terms 3", words = "with CARS empty (sandbags stay), FOOT 0, nobody there, MINUTE 0:")
    static void t3_dayBeginsAnew() {
        GreatWheel x = wheelOf("cars 4;seats 1;bears 999;minutes 2;bag 30;party 10;party 20 20;", "load;turn if late 2;");
        x.bag(1, 1);
        int[] before = new int[6];
        for (int what = 0; what < 6; what++) {
            before[what] = x.day(5, 60, 40, what);
        }
        // Somebody sits, somebody waits, another foot, another minute.
        come(x, 0, 1, 0);
        x.load(0);
        turn(x, 1);
        x.rest(100);
        for (int what = 0; what < 6; what++) {
            due("day(5, 60, 40, " + what + ")", x.day(5, 60, 40, what), before[what]);
        }
        due("with sandbags", x.day(5, 1, 0, 5), 3000);
        x.bag(1, 0);
        due("without", x.day(5, 1, 0, 5), 0);
        for (int cars : new int[] {4, 6, 8, 12}) {
            GreatWheel y = wheelOf("cars " + cars + ";bears 999;minutes 1;bag 1;", "turn;");
            y.bag(cars - 1, 1);
            int most = cars == 6 ? 87 : 100;
            due("the last car's sandbags stay", y.day(1, cars, 0, 5), most);
            due("as many turns as cars", y.day(1, cars, 0, 3), cars);
        }
    }

    @Says(in = "Terms 3", words = "as long as the MINUTE is below that:")
    static void t3_dayTillItsMinutes() {
        GreatWheel x = wheelOf("cars 4;minutes 3;party 10;", "turn;");
        for (int minutes = 1; minutes <= 30; minutes++) {
            due("turns in " + minutes, x.day(1, minutes, 0, 3), (minutes + 2) / 3);
        }
        rule(x, "again 9 round;");
        due("one going, however long", x.day(1, 1, 0, 3), 36);
        due("one going, however long", x.day(1, 108, 0, 3), 36);
        due("two goings", x.day(1, 109, 0, 3), 72);
    }

    @Says(in = "Terms 3", words = "for each MINUTE that began since the last time (the first too) DRAW modulo 100:")
    static void t3_dayDrawsForEachMinute() {
        // Goings at 0, 3 and 6: of minute 0; of 1, 2, 3; of 4, 5, 6.
        GreatWheel x = wheelOf("cars 4;minutes 3;party 10;", "turn;");
        int[] came = {1, 1, 1, 4, 4, 4, 7, 7, 7, 10};
        for (int minutes = 1; minutes <= 10; minutes++) {
            due("visits in " + minutes, x.day(1, minutes, 100, 2), came[minutes - 1]);
        }
        // Which minute of them: reckoned anew with longs.
        for (int seed = 1; seed <= 20; seed++) {
            long draw = seed;
            int waits = 0;
            int many = 0;
            for (int minute = 0; minute <= 57; minute++) {
                draw = (1103515245L * draw + 12345L) & 0xffffffffL;
                if ((draw >> 16) % 100 < 40) {
                    waits += 60 - minute;
                    many++;
                }
            }
            due("visits of seed " + seed, x.day(seed, 60, 40, 2), many);
            due("waits of seed " + seed, x.day(seed, 60, 40, 4), waits);
        }
    }

    @Says(in = "Terms 3", words = "below come, PARTY (how many VISITS there were) modulo PARTIES comes (if there are"
        + " PARTIES, and fewer than 60 VISITS), in that MINUTE;")
    static void t3_dayLetsPartiesCome() {
        GreatWheel x = wheelOf("cars 4;seats 6;bears 999;minutes 1;party 1;party 1 1;party 1 1 1;party 1 1 1 1;",
                "load;turn;");
        // Party 0 at 0, 1 at 1, 2 at 2: six guests sit; 3 at 3 needs a turn, then 0 comes again.
        int[] loaded = {1, 3, 6, 6, 10, 11};
        for (int minutes = 1; minutes <= 6; minutes++) {
            due("guests in " + minutes, x.day(9, minutes, 100, 1), loaded[minutes - 1]);
        }
        due("come 0: nobody", x.day(9, 480, 0, 2), 0);
        due("come 0: nobody", x.day(9, 480, 0, 1), 0);
        rule(x, "turn;");
        due("59 minutes", x.day(9, 59, 100, 2), 59);
        due("60 minutes", x.day(9, 60, 100, 2), 60);
        due("61 minutes: no more than 60", x.day(9, 61, 100, 2), 60);
        due("480 minutes: no more than 60", x.day(9, 480, 100, 2), 60);
        due("the last came in minute 59", x.day(9, 480, 100, 4), 480 * 60 - 59 * 60 / 2);
        GreatWheel none = wheelOf("cars 4;", "load;turn;");
        due("without parties", none.day(9, 480, 100, 2), 0);
        due("without parties", none.day(9, 480, 100, 3), 240);
        dueByVisits();
        // Just below come: the draw modulo 100 of seed 1 for the first minute.
        int first = (int) (((1103515245L + 12345L & 0xffffffffL) >> 16) % 100);
        due("come just at it", x.day(1, 1, first, 2), 0);
        due("come just above it", x.day(1, 1, first + 1, 2), 1);
    }

    /** Parties come by how many visits there were, not by minutes or draws; party p has p and 1 guests. */
    private static void dueByVisits() {
        GreatWheel x = wheelOf("cars 4;seats 6;bears 999;minutes 1;party 1;party 1 1;party 1 1 1;", "load;");
        int tried = 0;
        for (int seed = 1; seed <= 100; seed++) {
            int[] draws = new int[3];
            long draw = seed;
            for (int minute = 0; minute < 3; minute++) {
                draw = (1103515245L * draw + 12345L) & 0xffffffffL;
                draws[minute] = (int) ((draw >> 16) % 100);
            }
            if (draws[1] < draws[0]) {
                due("party 0 in minute 1 of seed " + seed, x.day(seed, 2, draws[0], 1), 1);
                tried |= 1;
            }
            if (draws[0] < draws[1] && draws[2] < draws[1]) {
                due("party 0 in minute 0, party 1 in 2 of seed " + seed, x.day(seed, 3, draws[1], 1), 3);
                tried |= 2;
            }
        }
        due("both were tried", tried, 3);
    }

    @Says(in = "Terms 3", words = "then THE RULE goes on once.")
    static void t3_dayGoesOnOnce() {
        GreatWheel x = wheelOf("cars 4;seats 6;bears 999;minutes 1;party 10;", "load;turn;");
        due("one comes and is let in each minute", x.day(1, 3, 100, 1), 3);
        due("no turn beside", x.day(1, 3, 100, 3), 0);
        due("who comes is there for the rule of that minute", x.day(1, 1, 100, 1), 1);
        rule(x, "turn if waits 2;load;");
        // 0: load. 1: load. Nobody else waits at any time.
        due("one by one", x.day(1, 2, 100, 1), 2);
        rule(x, "turn if waits 2;");
        // 0: one waits, a minute goes by; 1: two wait, a turn; 2: a turn.
        due("turns", x.day(1, 3, 100, 3), 2);
        GreatWheel none = wheelOf("cars 4;minutes 9;party 10;");
        due("without a rule a minute goes by", none.day(1, 7, 100, 2), 7);
    }

    @Says(in = "Terms 3", words = "WAIT of a VISIT: MINUTES from its coming till it is LOADED (behind that minute), or"
        + " till the end.")
    static void t3_waitOfAVisit() {
        GreatWheel x = wheelOf("cars 4;seats 1;minutes 5;bears 999;party 10;", "load;turn;");
        // 0: visit 0 comes, sits behind minute 1.
        due("let in at once", x.day(1, 1, 100, 0), 1);
        // 1: visit 1 comes, a turn till 6, the end: it waited 5.
        due("till the end", x.day(1, 2, 100, 0), 5);
        due("both", x.day(1, 2, 100, 4), 1 + 5);
        // 6: visits 2 to 6 came in 2 to 6; visit 1 sits behind 7, having waited 6; the end is 7.
        due("behind that minute", x.day(1, 7, 100, 0), 6);
        due("all", x.day(1, 7, 100, 4), 1 + 6 + 5 + 4 + 3 + 2 + 1);
    }

    @Says(in = "Terms 3", words = "DRAW: x (an int, a seed at first) becomes 1103515245 x + 12345; it is x >>> 16.")
    static void t3_draw() {
        GreatWheel x = wheelOf("minutes 1;party 10;");
        for (int seed : new int[] {0, 1, 2, 3, -1, -2, 12345, 0x10000, GREATEST, LEAST}) {
            long draw = seed & 0xffffffffL;
            int came = 0;
            int waits = 0;
            for (int minute = 0; minute < 80; minute++) {
                draw = (1103515245L * draw + 12345L) & 0xffffffffL;
                if ((draw >> 16) % 100 < 50) {
                    came++;
                    waits += 80 - minute;
                }
            }
            due("visits of seed " + seed, x.day(seed, 80, 50, 2), came);
            due("waits of seed " + seed, x.day(seed, 80, 50, 4), waits);
        }
    }

    // ---- trays, images

    @Says(in = "Terms 3", words = "TRAYS 0 to 3 are MISSING at first, or rows of 0 to 40 numbers of 8 bits (sort 0), 16"
        + " (1), 32 (2), 64 (3).")
    static void t3_trays() {
        for (int tray = 0; tray < 4; tray++) {
            int t = tray;
            GreatWheel x = new GreatWheel();
            dueThrow("missing at first", ISE, () -> x.perform(t));
            dueThrow("41 numbers", IAE, () -> x.tray(t, 0, 41));
            dueThrow("sort 4", IAE, () -> x.tray(t, 4, 40));
            dueThrow("missing still", ISE, () -> x.write(t, 0, 0));
            for (int sort = 0; sort < 4; sort++) {
                x.tray(t, sort, 0);
                due("a row of none", x.perform(t), 0);
                x.tray(t, sort, 40);
                due("a row of forty", x.judge(t, 0), -1);
                int bits = 8 << sort;
                due("all bits", x.write(t, 39, -1L >>> 1), bits == 64 ? -1L >>> 1 : -1);
                due("the highest bit", x.write(t, 39, 1L << bits - 1), -1L << bits - 1);
                due("the bit above", x.write(t, 39, bits == 64 ? 0 : 1L << bits), 0);
            }
            for (int other = 0; other < 4; other++) {
                int o = other;
                if (other != tray) {
                    dueThrow("tray " + other + " is missing still", ISE, () -> x.perform(o));
                }
            }
        }
        GreatWheel x = new GreatWheel();
        dueThrow("tray 4", NSEE, () -> x.tray(4, 0, 0));
        dueThrow("tray -1", NSEE, () -> x.tray(-1, 0, 0));
    }

    @Says(in = "Terms 3", words = "IMAGES 0 to 2: all but the tape, the FAULT and TRAYS, as it was (none at first).")
    static void t3_images() {
        GreatWheel x = wheelOf("cars 4;seats 3;bears 999;minutes 3;bag 7;party 5 off 2 rides 3 fear;", "turn;load;");
        for (int i = 0; i < 3; i++) {
            int image = i;
            dueThrow("none at first", ISE, () -> x.restore(image));
            dueThrow("none at first", ISE, () -> x.alike(image));
        }
        dueThrow("image 3", NSEE, () -> x.image(3));
        dueThrow("image -1", NSEE, () -> x.image(-1));
        seat(x, 0);
        x.bag(2, 4);
        turn(x, 1);
        come(x, 0);
        x.image(0);
        x.turn();
        x.image(2);
        wheel(x, "cars 12;?");
        wheel(x, "cars 12;");
        x.rule(0);
        x.image(1);
        put(x, 3, 0, 7);
        wheel(x, "cars 6;?");
        feed(x, "cars 6;");
        x.restore(0);
        int[] want = {6, 4, 3, 999, 3, 7, 1, 2, 1, 4, 1, 2, 20};
        for (int what = 0; what < 13; what++) {
            due("count(" + what + ")", x.count(what), want[what]);
        }
        due("sandbags", x.car(2, 4), 4);
        due("load", x.car(0, 1), 5);
        due("worst", x.worst(1), 2800 - 500 + 200);
        due("its car", x.visit(0, 2), 0);
        due("party", x.party(0, 4), 1);
        due("the rule", x.so(1), true);
        due("the fault stays as it is", x.fault(0), 1);
        due("its place", x.fault(1), 7);
        due("trays stay as they are", x.judge(3, 0), 1);
        due("the tape stays as it is", x.wheel(7), 1);
        due("the tape's bytes", x.count(1), 6);
        x.restore(2);
        due("another image", x.count(8), 2);
        due("top", x.top(), true);
        x.restore(1);
        due("another image", x.count(1), 12);
        due("its rule", x.count(11), 0);
    }

    @Says(in = "Terms 3", words = "The constants: `NONE = -1`: There is none.")
    static void t3_none() throws ReflectiveOperationException {
        // By its name, as the compiler would put a copy of it here.
        due("NONE", GreatWheel.class.getField("NONE").getInt(null), -1);
        GreatWheel x = new GreatWheel();
        due("no visit waits", x.waits(0), -1);
        due("no visit sits", x.car(0, 5), -1);
        due("no step", x.go(), -1);
        due("no place", x.fault(1), -1);
    }
}
