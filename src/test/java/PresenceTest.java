import java.util.NoSuchElementException;

/** Promises 8 to 16: come, visit, waits, car, bag, lean, worst, sure, top. */
public final class PresenceTest {
    private static final Class<?> IAE = IllegalArgumentException.class;
    private static final Class<?> NSEE = NoSuchElementException.class;

    public static void main(String[] args) {
        come();
        visit();
        waits();
        car();
        bag();
        leanByLevers();
        lean();
        worst();
        sure();
        top();
        Checks.end();
    }

    private static void come() {
        GreatWheel x = Checks.wheelOf("party 50;party 60;");
        Checks.dueThrow("8: party", NSEE, () -> x.come(2));
        Checks.dueThrow("8: party", NSEE, () -> x.come(-1));
        for (int v = 0; v < 60; v++) {
            Checks.due("8: come", x.come(v % 2), v);
        }
        Checks.due("8: there are 60", x.come(0), -1);
        Checks.due("8: there are 60", x.count(7), 60);
        Checks.dueThrow("8: party first", NSEE, () -> x.come(2));
        Checks.due("8: its party", x.visit(59, 0), 1);
        GreatWheel none = new GreatWheel();
        Checks.dueThrow("8: no party at all", NSEE, () -> none.come(0));
    }

    private static void dueVisit(GreatWheel x, int v, int party, int came, int car, int rounds, int waited) {
        int[] want = {party, came, car, rounds, waited};
        for (int what = 0; what < 5; what++) {
            Checks.due("9: visit(" + v + ", " + what + ")", x.visit(v, what), want[what]);
        }
    }

    private static void visit() {
        GreatWheel x = Checks.wheelOf("cars 4;minutes 3;bears 999;party 50 rides 2;party 60;");
        x.rest(5);
        x.come(1);
        x.rest(2);
        x.come(0);
        dueVisit(x, 0, 1, 5, -1, 0, 2);
        dueVisit(x, 1, 0, 7, -1, 0, 0);
        x.load(0);
        dueVisit(x, 0, 1, 5, 0, 0, 3);
        dueVisit(x, 1, 0, 7, -1, 0, 1);
        x.load(1);
        dueVisit(x, 1, 0, 7, 0, 0, 2);
        for (int n = 0; n < 3; n++) {
            x.turn();
        }
        dueVisit(x, 0, 1, 5, 0, 0, 3);
        x.turn();
        dueVisit(x, 0, 1, 5, 0, 1, 3);
        dueVisit(x, 1, 0, 7, 0, 1, 2);
        Checks.due("9: one leaves", x.empty(), 1);
        dueVisit(x, 0, 1, 5, -2, 1, 3);
        for (int n = 0; n < 4; n++) {
            x.turn();
        }
        dueVisit(x, 0, 1, 5, -2, 1, 3);
        dueVisit(x, 1, 0, 7, 0, 2, 2);
        Checks.dueThrow("9: visit", NSEE, () -> x.visit(2, 0));
        Checks.dueThrow("9: visit", NSEE, () -> x.visit(-1, 9));
        Checks.dueThrow("9: what", IAE, () -> x.visit(0, 5));
        Checks.dueThrow("9: what", IAE, () -> x.visit(0, -1));
    }

    private static void waits() {
        GreatWheel x = Checks.wheelOf("cars 4;seats 1;bears 999;party 50;");
        Checks.due("10: nobody", x.waits(0), -1);
        for (int n = 0; n < 4; n++) {
            x.come(0);
        }
        x.load(1);
        Checks.due("10: first", x.waits(0), 0);
        Checks.due("10: second", x.waits(1), 2);
        Checks.due("10: third", x.waits(2), 3);
        Checks.due("10: none", x.waits(3), -1);
        Checks.due("10: below", x.waits(-1), -1);
        Checks.due("10: greatest", x.waits(Integer.MAX_VALUE), -1);
        x.turn();
        x.load(0);
        Checks.due("10: first", x.waits(0), 2);
    }

    private static void dueCar(GreatWheel x, int car, int... want) {
        for (int what = 0; what < want.length; what++) {
            Checks.due("11: car(" + car + ", " + what + ")", x.car(car, what), want[what]);
        }
    }

    private static void car() {
        GreatWheel x = Checks.wheelOf("cars 6;seats 4;bears 999;bag 7;party 50 40;party 60 rides 2;");
        x.come(1);
        x.come(0);
        x.come(1);
        x.bag(0, 3);
        dueCar(x, 0, 0, 21, 0, 0, 3, -1);
        x.load(2);
        x.load(1);
        dueCar(x, 0, 3, 171, 0, 0, 3, 1);
        dueCar(x, 1, 0, 0, 0, 4, 0, -1);
        dueCar(x, 5, 0, 0, 0, 20, 0, -1);
        x.turn();
        dueCar(x, 0, 3, 171, 0, 20, 3, 1);
        dueCar(x, 1, 0, 0, 0, 0, 0, -1);
        for (int n = 0; n < 5; n++) {
            x.turn();
        }
        dueCar(x, 0, 3, 171, 1, 0, 3, 1);
        for (int n = 0; n < 6; n++) {
            x.turn();
        }
        dueCar(x, 0, 3, 171, 2, 0, 3, 1);
        x.empty();
        dueCar(x, 0, 0, 21, 0, 0, 3, -1);
        GreatWheel y = Checks.wheelOf("seats 3;party 1;");
        y.come(0);
        y.come(0);
        y.load(1);
        y.load(0);
        Checks.due("11: the first by number", y.car(0, 5), 0);
        Checks.dueThrow("11: car", NSEE, () -> x.car(6, 0));
        Checks.dueThrow("11: car", NSEE, () -> x.car(-1, 9));
        Checks.dueThrow("11: what", IAE, () -> x.car(0, 6));
        Checks.dueThrow("11: what", IAE, () -> x.car(5, -1));
    }

    private static void bag() {
        GreatWheel x = Checks.wheelOf("cars 4;bag 10;");
        Checks.due("12: lay", x.bag(3, 9), 0);
        Checks.due("12: lay", x.bag(3, 2), 9);
        Checks.due("12: load", x.car(3, 1), 20);
        Checks.due("12: lay", x.bag(3, 0), 2);
        Checks.due("12: load", x.car(3, 1), 0);
        Checks.dueThrow("12: n", IAE, () -> x.bag(3, 10));
        Checks.dueThrow("12: n", IAE, () -> x.bag(3, -1));
        Checks.dueThrow("12: car", NSEE, () -> x.bag(4, 1));
        Checks.dueThrow("12: car first", NSEE, () -> x.bag(-1, 10));
        Checks.due("12: the minute stays", x.count(9), 0);
    }

    /** One sandbag of weight 1 shows the lever of each car. */
    private static void leanByLevers() {
        int[][] levers = {
            {0, 100, 0, -100},
            {0, 87, 87, 0, -87, -87},
            {0, 71, 100, 71, 0, -71, -100, -71},
            {0, 50, 87, 100, 87, 50, 0, -50, -87, -100, -87, -50}};
        for (int[] row : levers) {
            GreatWheel x = Checks.wheelOf("cars " + row.length + ";bag 1;");
            for (int car = 0; car < row.length; car++) {
                x.bag(car, 1);
                for (int foot = 0; foot < row.length; foot++) {
                    Checks.due("13: lever", x.lean(foot), row[Math.floorMod(car - foot, row.length)]);
                }
                x.bag(car, 0);
            }
        }
    }

    private static void lean() {
        GreatWheel x = Checks.wheelOf("cars 4;bears 999;bag 5;party 50 30;");
        x.load(x.come(0));
        x.bag(1, 2);
        x.bag(2, 3);
        Checks.due("13: lean(0)", x.lean(0), 1000);
        Checks.due("13: lean(1)", x.lean(1), 1500 - 8000);
        Checks.due("13: lean(2)", x.lean(2), -1000);
        Checks.due("13: lean(3)", x.lean(3), 8000 - 1500);
        Checks.dueThrow("13: car", NSEE, () -> x.lean(4));
        Checks.dueThrow("13: car", NSEE, () -> x.lean(-1));
    }

    private static void worst() {
        GreatWheel x = Checks.wheelOf("cars 4;bears 999;bag 5;party 50 30 off 7;party 10 off 50;");
        x.load(x.come(0));
        x.bag(1, 2);
        Checks.due("14: no lever", x.worst(0), 1000);
        Checks.due("14: two guests", x.worst(1), 8000 + 2 * 700);
        Checks.due("14: with minus", x.worst(3), 8000 + 2 * 700);
        x.turn();
        x.load(x.come(1));
        Checks.due("14: both", x.worst(1), 8000 + 1400);
        Checks.due("14: the other", x.worst(0), 2000 + 5000);
        Checks.due("14: those who wait are none", x.come(1), 2);
        Checks.due("14: both", x.worst(0), 7000);
        Checks.dueThrow("14: car", NSEE, () -> x.worst(4));
        Checks.dueThrow("14: car", NSEE, () -> x.worst(-1));
    }

    private static void sure() {
        GreatWheel x = Checks.wheelOf("cars 4;bears 80;bag 1;party 70 off 10;");
        Checks.due("15: none", x.sure(), -1);
        x.load(x.come(0));
        Checks.due("15: just so", x.worst(1), 8000);
        Checks.due("15: none", x.sure(), -1);
        x.bag(0, 1);
        Checks.due("15: above", x.sure(), 1);
        x.turn();
        Checks.due("15: the first by number", x.sure(), 1);
        x.turn();
        x.turn();
        Checks.due("15: wherever it stands", x.sure(), 1);
        x.bag(0, 0);
        x.bag(1, 9);
        Checks.due("15: none", x.sure(), -1);
        GreatWheel y = Checks.wheelOf("cars 4;bears 1;bag 1;");
        y.bag(3, 2);
        Checks.due("15: car 0", y.sure(), 0);
        y.turn();
        Checks.due("15: car 0", y.sure(), 0);
        GreatWheel z = Checks.wheelOf("cars 12;bears 99;bag 1;");
        z.bag(1, 1);
        Checks.due("15: none", z.sure(), -1);
        GreatWheel last = Checks.wheelOf("cars 4;bears 999;party 200 200 off 50;");
        last.load(last.come(0));
        Checks.due("15: none", last.sure(), -1);
    }

    private static void top() {
        for (int cars : new int[] {4, 6, 8, 12}) {
            GreatWheel x = Checks.wheelOf("cars " + cars + ";seats 6;bears 999;party 1;party 2 3 fear;");
            x.come(0);
            x.come(1);
            Checks.due("16: who waits is nowhere", x.top(), false);
            x.load(0);
            x.load(1);
            for (int n = 0; n < cars; n++) {
                Checks.due("16: top at " + n + " of " + cars, x.top(), n == cars / 2);
                x.turn();
            }
            x.empty();
            for (int n = 0; n < cars; n++) {
                Checks.due("16: gone", x.top(), false);
                x.turn();
            }
            x.load(x.come(0));
            for (int n = 0; n < cars; n++) {
                Checks.due("16: without fear", x.top(), false);
                x.turn();
            }
        }
    }
}
