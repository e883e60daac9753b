import java.util.NoSuchElementException;

/** Promises 1 to 7: a new object, feed, wheel, rule, fault, party, weight. */
public final class TextsTest {
    private static final Class<?> IAE = IllegalArgumentException.class;
    private static final Class<?> NSEE = NoSuchElementException.class;

    public static void main(String[] args) {
        newObject();
        feed();
        wheelSettings();
        wheelBounds();
        wheelStarts();
        wheelFaults();
        wheelLimits();
        ruleSteps();
        ruleFaults();
        ruleDepth();
        fault();
        party();
        weight();
        Checks.end();
    }

    private static void newObject() {
        GreatWheel x = new GreatWheel();
        int[] want = {0, 8, 2, 200, 2, 20, 0, 0, 0, 0, 0, 0, 0};
        for (int what = 0; what < want.length; what++) {
            Checks.due("1: count(" + what + ")", x.count(what), want[what]);
        }
        Checks.due("1: fault", x.fault(0), 0);
        Checks.due("1: place", x.fault(1), -1);
        Checks.due("1: nobody waits", x.waits(0), -1);
        Checks.due("1: not top", x.top(), false);
        Checks.due("1: NONE", GreatWheel.NONE, -1);
        for (int car = 0; car < 8; car++) {
            Checks.due("1: load", x.car(car, 1), 0);
            Checks.due("1: 24th", x.car(car, 3), 3 * car);
            Checks.due("1: first visit", x.car(car, 5), -1);
        }
        for (int tray = 0; tray < 4; tray++) {
            int t = tray;
            Checks.dueThrow("1: tray missing", IllegalStateException.class, () -> x.perform(t));
        }
        for (int image = 0; image < 3; image++) {
            int i = image;
            Checks.dueThrow("1: no image", IllegalStateException.class, () -> x.restore(i));
        }
    }

    private static void feed() {
        GreatWheel x = new GreatWheel();
        for (int n = 1; n <= 40; n++) {
            Checks.due("2: feed", x.feed(0x20202020, 0x20202020, 0x20202020, 0x20202020, 0x20202020), 20 * n);
        }
        Checks.due("2: full", x.feed(0x41414141, 0, 0, 0, 0), -1);
        Checks.due("2: nothing changed", x.count(12), 800);
        Checks.due("2: blanks alone", x.wheel(800), 0);
        Checks.due("2: empty again", x.count(12), 0);
        // The highest byte of each int first: "cars 12;" and "seats 3;" behind one another.
        Checks.due("2: order", x.feed(0x63617273, 0x2031323b, 0x73656174, 0x7320333b, 0x20202020), 20);
        Checks.due("2: order", x.wheel(20), 2);
        Checks.due("2: order", x.count(1), 12);
        Checks.due("2: order", x.count(2), 3);
        // Bytes above 127 are no token, and don't reach into their neighbours.
        x.feed(0xff202020, 0x20202020, 0x20202020, 0x20202020, 0x20202020);
        Checks.due("2: high byte", x.wheel(20), -11);
        Checks.due("2: high byte", x.fault(1), 0);
        x.feed(0x626167ff, 0x20202020, 0x20202020, 0x20202020, 0x20202020);
        Checks.due("2: high byte behind", x.wheel(20), -11);
        Checks.due("2: high byte behind", x.fault(1), 3);
    }

    private static void wheelSettings() {
        GreatWheel x = new GreatWheel();
        Checks.due("3: lines", Checks.wheel(x, "cars 6;seats 5;bears 321;minutes 7;bag 42;party 1;party 2 3;"), 7);
        int[] want = {7, 6, 5, 321, 7, 42, 2, 0, 0, 0, 0, 0, 0};
        for (int what = 0; what < want.length; what++) {
            Checks.due("3: count(" + what + ")", x.count(what), want[what]);
        }
        Checks.due("3: later ones strike", Checks.wheel(x, "cars 4;cars 12;bag 1;bag 99;seats 6;seats 1;"), 6);
        Checks.due("3: cars", x.count(1), 12);
        Checks.due("3: bag", x.count(5), 99);
        Checks.due("3: seats", x.count(2), 1);
        Checks.due("3: bears is as without", x.count(3), 200);
        Checks.due("3: minutes are as without", x.count(4), 2);
        Checks.due("3: no parties", x.count(6), 0);
        Checks.due("3: no blanks are needed", Checks.wheel(x, "cars4;party9 8off7rides6fear;"), 2);
        Checks.due("3: cars", x.count(1), 4);
        Checks.due("3: rides", x.party(0, 3), 6);
        Checks.due("3: all blanks", Checks.wheel(x, "\n cars\n\n008 ;\n"), 1);
        Checks.due("3: cars", x.count(1), 8);
        Checks.due("3: empty text", x.wheel(0), 0);
        Checks.due("3: no lines", x.count(0), 0);
    }

    private static void wheelBounds() {
        GreatWheel x = new GreatWheel();
        Checks.dueThrow("3: n above", IAE, () -> x.wheel(1));
        Checks.dueThrow("3: n below", IAE, () -> x.wheel(-1));
        Checks.feed(x, "cars 4;cars 6;");
        Checks.dueThrow("3: n above", IAE, () -> x.wheel(21));
        Checks.dueThrow("3: least int", IAE, () -> x.wheel(Integer.MIN_VALUE));
        Checks.dueThrow("3: greatest int", IAE, () -> x.wheel(Integer.MAX_VALUE));
        Checks.due("3: the tape stays", x.count(12), 20);
        Checks.due("3: the first bytes alone", x.wheel(7), 1);
        Checks.due("3: the first bytes alone", x.count(1), 4);
        Checks.due("3: the tape is empty", x.count(12), 0);
        Checks.feed(x, "cars 5;");
        Checks.due("3: fault", x.wheel(7), -13);
        Checks.due("3: the tape is empty with a fault too", x.count(12), 0);
    }

    private static void wheelStarts() {
        GreatWheel x = Checks.wheelOf("cars 4;bears 999;party 50;");
        Checks.rule(x, "turn;");
        x.load(x.come(0));
        x.bag(1, 4);
        x.turn();
        Checks.due("3: fault", Checks.wheel(x, "cars 6;seats 9;"), -13);
        Checks.due("3: all stays, cars", x.count(1), 4);
        Checks.due("3: all stays, parties", x.count(6), 1);
        Checks.due("3: all stays, visits", x.count(7), 1);
        Checks.due("3: all stays, foot", x.count(8), 1);
        Checks.due("3: all stays, minute", x.count(9), 3);
        Checks.due("3: all stays, guests", x.count(10), 1);
        Checks.due("3: all stays, bags", x.car(1, 4), 4);
        Checks.due("3: wheel", Checks.wheel(x, "cars 4;party 60;"), 2);
        Checks.due("3: nobody is there", x.count(7), 0);
        Checks.due("3: nobody sits", x.count(10), 0);
        Checks.due("3: foot", x.count(8), 0);
        Checks.due("3: minute", x.count(9), 0);
        Checks.due("3: no bags", x.car(1, 4), 0);
        Checks.due("3: no load", x.car(0, 1) + x.car(1, 1), 0);
        Checks.due("3: no worst", x.worst(1), 0);
        Checks.due("3: the rule stays", x.count(11), 1);
    }

    private static void wheelFault(String text, int kind, int place) {
        GreatWheel x = new GreatWheel();
        Checks.due("3: " + text, Checks.wheel(x, text), -10 - kind);
        Checks.due("5: kind of " + text, x.fault(0), kind);
        Checks.due("5: place of " + text, x.fault(1), place);
        Checks.due("3: nothing is set by " + text, x.count(1), 8);
    }

    private static void wheelFaults() {
        wheelFault("Cars 4;", 1, 0);
        wheelFault("cars 4,", 1, 6);
        wheelFault("cars\t4;", 1, 4);
        wheelFault("cars -4;", 1, 5);
        wheelFault("bears 1000;", 1, 6);
        wheelFault("bears 0001;", 1, 6);
        wheelFault("party 5 1234567890123;", 1, 8);
        wheelFault("1234;", 1, 0);
        wheelFault("cars 4; ?", 1, 8);
        wheelFault("party 5 off 5 \r;", 1, 14);
        wheelFault("cars", 2, 4);
        wheelFault("cars  ", 2, 6);
        wheelFault("cars 4", 2, 6);
        wheelFault("cars 4 \n", 2, 8);
        wheelFault(";", 2, 0);
        wheelFault("cars 4;;", 2, 7);
        wheelFault("4;", 2, 0);
        wheelFault("car 4;", 2, 0);
        wheelFault("carss 4;", 2, 0);
        wheelFault("zz 4;", 2, 0);
        wheelFault("cars 4;bagz 4;", 2, 7);
        wheelFault("a4;", 2, 0);
        wheelFault("load;", 2, 0);
        wheelFault("cars 4 6;", 2, 7);
        wheelFault("cars seats;", 2, 5);
        wheelFault("cars;", 2, 4);
        wheelFault("(", 2, 0);
        wheelFault("party;", 2, 5);
        wheelFault("party off 5;", 2, 6);
        wheelFault("party 5 rides 2 off 5;", 2, 16);
        wheelFault("party 5 fear rides 2;", 2, 13);
        wheelFault("party 5 off 5 off 5;", 2, 14);
        wheelFault("party 5 off;", 2, 11);
        wheelFault("party 5 off 5 6;", 2, 14);
        wheelFault("party 5 fear fear;", 2, 13);
        wheelFault("party 5 6 cars 4;", 2, 10);
        wheelFault("cars 0;", 3, 5);
        wheelFault("cars 7;", 3, 5);
        wheelFault("cars 10;", 3, 5);
        wheelFault("cars 24;", 3, 5);
        wheelFault("seats 0;", 3, 6);
        wheelFault("seats 7;", 3, 6);
        wheelFault("bears 0;", 3, 6);
        wheelFault("minutes 0;", 3, 8);
        wheelFault("minutes 10;", 3, 8);
        wheelFault("bag 0;", 3, 4);
        wheelFault("bag 100;", 3, 4);
        wheelFault("party 0;", 3, 6);
        wheelFault("party 201;", 3, 6);
        wheelFault("party 1 200 201;", 3, 12);
        wheelFault("party 5 off 51;", 3, 12);
        wheelFault("party 5 rides 0;", 3, 14);
        wheelFault("party 5 rides 10;", 3, 14);
        wheelFault("party 5 6 7 0 Z;", 3, 12);
        wheelFault("seats 7 Z", 3, 6);
        wheelFault("party 1 2 3 4 5 6 7;", 4, 18);
        wheelFault("party 1 2 3 4 5 6 0;", 3, 18);
        wheelFault("party 1 2 3 4 5 6 201;", 3, 18);
        wheelFault("party 1 2 3 4 5 6 1000;", 1, 18);
    }

    private static void wheelLimits() {
        StringBuilder b = new StringBuilder();
        for (int n = 0; n < 12; n++) {
            b.append("party 7;");
        }
        GreatWheel x = new GreatWheel();
        Checks.due("3: twelve parties", Checks.wheel(x, b.toString()), 12);
        Checks.due("3: twelve parties", x.count(6), 12);
        wheelFault(b + "cars 4;party 7;", 4, 103);
        wheelFault(b + "party 0;", 4, 96);
        wheelFault(b + " Party 7;", 1, 97);
        wheelFault(b + "partys 7;", 2, 96);
        Checks.due("3: the edges", Checks.wheel(x, "cars 12;seats 6;bears 999;minutes 9;bag 99;"
                + "party 200 200 200 200 200 200 off 50 rides 9 fear;party 1 off 0 rides 1;bears 1;seats 1;bag 1;"
                + "minutes 1;"), 11);
        Checks.due("3: six guests", x.party(0, 0), 6);
        Checks.due("3: all weights", x.party(0, 1), 1200);
        StringBuilder whole = new StringBuilder();
        for (int n = 0; n < 100; n++) {
            whole.append("bag 12; ");
        }
        Checks.due("3: 800 bytes", Checks.wheel(x, whole.toString()), 100);
        whole.setCharAt(798, 'x');
        Checks.due("3: a fault at the end of 800 bytes", Checks.wheel(x, whole.toString()), -12);
        Checks.due("3: its place", x.fault(1), 798);
    }

    private static void ruleSteps() {
        GreatWheel x = Checks.wheelOf("cars 4;party 50;");
        x.come(0);
        x.rest(3);
        Checks.due("4: steps", Checks.rule(x, "empty;load if waits 1;again 3 turn;hurry;round if top;"), 5);
        Checks.due("4: count", x.count(11), 5);
        Checks.due("4: nothing else changes, lines", x.count(0), 2);
        Checks.due("4: nothing else changes, visits", x.count(7), 1);
        Checks.due("4: nothing else changes, minute", x.count(9), 3);
        Checks.due("4: fault", Checks.rule(x, "empty;dance;"), -12);
        Checks.due("4: all stays", x.count(11), 5);
        Checks.due("4: the tape is empty", x.count(12), 0);
        Checks.due("4: empty text", x.rule(0), 0);
        Checks.due("4: no step", x.count(11), 0);
        Checks.dueThrow("4: n above", IAE, () -> x.rule(1));
        Checks.dueThrow("4: n below", IAE, () -> x.rule(-1));
        Checks.feed(x, "turn;turn;");
        Checks.dueThrow("4: n above", IAE, () -> x.rule(21));
        Checks.due("4: the tape stays", x.count(12), 20);
        Checks.due("4: the first bytes alone", x.rule(5), 1);
        Checks.due("4: all facts", Checks.rule(x, "load if done0and room 999 or waits 5 and leans 6 or late 7 or"
                + " long 8 and full 9 or top and not(not top or(done 1));again9load;again 1 load;"), 3);
        StringBuilder b = new StringBuilder();
        for (int n = 0; n < 12; n++) {
            b.append("load;");
        }
        Checks.due("4: twelve steps", Checks.rule(x, b.toString()), 12);
        ruleFault(b + "load;", 4, 60);
        ruleFault(b + " again 0 load;", 4, 61);
        ruleFault(b + "top;", 2, 60);
        ruleFault(b + ";", 2, 60);
        ruleFault(b + "1234", 1, 60);
    }

    private static void ruleFault(String text, int kind, int place) {
        GreatWheel x = new GreatWheel();
        Checks.rule(x, "turn;");
        Checks.due("4: " + text, Checks.rule(x, text), -10 - kind);
        Checks.due("5: kind of " + text, x.fault(0), kind);
        Checks.due("5: place of " + text, x.fault(1), place);
        Checks.due("4: all stays behind " + text, x.count(11), 1);
    }

    private static void ruleFaults() {
        ruleFault("turn if TOP;", 1, 8);
        ruleFault("turn if late 1000;", 1, 13);
        ruleFault("turn if late 5.;", 1, 14);
        ruleFault("turn", 2, 4);
        ruleFault("turn  ", 2, 6);
        ruleFault("turn if", 2, 7);
        ruleFault("turn if;", 2, 7);
        ruleFault("turn top;", 2, 5);
        ruleFault("turn if top top;", 2, 12);
        ruleFault("turn if top or;", 2, 14);
        ruleFault("turn if top and;", 2, 15);
        ruleFault("turn if and top;", 2, 8);
        ruleFault("turn if (top;", 2, 12);
        ruleFault("turn if top);", 2, 11);
        ruleFault("turn if ();", 2, 9);
        ruleFault("turn if (top", 2, 12);
        ruleFault("turn if not;", 2, 11);
        ruleFault("turn if late;", 2, 12);
        ruleFault("turn if late top;", 2, 13);
        ruleFault("turn if top 5;", 2, 12);
        ruleFault("turn if 5;", 2, 8);
        ruleFault("turn if turn;", 2, 8);
        ruleFault("again turn;", 2, 6);
        ruleFault("again 2;", 2, 7);
        ruleFault("again 2 again 2 turn;", 2, 8);
        ruleFault("if top;", 2, 0);
        ruleFault("cars 4;", 2, 0);
        ruleFault("turn;;", 2, 5);
        ruleFault("turns;", 2, 0);
        ruleFault("again 0 turn;", 3, 6);
        ruleFault("again 10 turn;", 3, 6);
    }

    private static void ruleDepth() {
        GreatWheel x = new GreatWheel();
        Checks.due("4: eight deep", Checks.rule(x, "turn if ((((((((top))))))));"), 1);
        Checks.due("4: eight deep", Checks.rule(x, "turn if not not not not not not not not top;"), 1);
        Checks.due("4: eight deep", Checks.rule(x, "turn if not(not(not(not(top))));"), 1);
        Checks.due("4: beside one another", Checks.rule(x, "turn if ((((((((top)))))))) or not not not not top"
                + " and ((((((((late 1))))))));"), 1);
        ruleFault("turn if (((((((((top)))))))));", 5, 16);
        ruleFault("turn if not not not not not not not not not top;", 5, 40);
        ruleFault("turn if not(not(not(not(not top))));", 5, 24);
        ruleFault("turn if ((((((((top or (top)))))))));", 5, 23);
        ruleFault("turn if ((((((((late 0)))))))) and (((((((((", 5, 43);
    }

    private static void fault() {
        GreatWheel x = new GreatWheel();
        Checks.wheel(x, "cars 4;seats 9;");
        Checks.due("5: kind", x.fault(0), 3);
        Checks.due("5: place", x.fault(1), 13);
        Checks.due("5: others", x.fault(2), -1);
        Checks.due("5: others", x.fault(-1), -1);
        Checks.due("5: others", x.fault(Integer.MIN_VALUE), -1);
        Checks.dueThrow("5: a call that throws", IAE, () -> x.rule(1));
        Checks.due("5: it stays", x.fault(0), 3);
        Checks.due("5: it stays", x.fault(1), 13);
        Checks.rule(x, "turn;");
        Checks.due("5: none", x.fault(0), 0);
        Checks.due("5: no place", x.fault(1), -1);
        Checks.rule(x, "turn?");
        x.image(0);
        x.wheel(0);
        Checks.due("5: none", x.fault(0), 0);
        x.restore(0);
        Checks.due("5: no image has it", x.fault(0), 0);
    }

    private static void party() {
        GreatWheel x = Checks.wheelOf("party 50 60 70 off 4 rides 3 fear;party 200;");
        int[][] want = {{3, 180, 4, 3, 1}, {1, 200, 0, 1, 0}};
        for (int p = 0; p < 2; p++) {
            for (int what = 0; what < 5; what++) {
                Checks.due("6: party(" + p + ", " + what + ")", x.party(p, what), want[p][what]);
            }
        }
        Checks.dueThrow("6: party", NSEE, () -> x.party(2, 0));
        Checks.dueThrow("6: party", NSEE, () -> x.party(-1, 0));
        Checks.dueThrow("6: party first", NSEE, () -> x.party(Integer.MAX_VALUE, 9));
        Checks.dueThrow("6: what", IAE, () -> x.party(0, 5));
        Checks.dueThrow("6: what", IAE, () -> x.party(0, -1));
    }

    private static void weight() {
        GreatWheel x = Checks.wheelOf("party 50 60 70;party 1 2 3 4 5 6;");
        Checks.due("7: weight", x.weight(0, 0), 50);
        Checks.due("7: weight", x.weight(0, 2), 70);
        Checks.due("7: weight", x.weight(1, 5), 6);
        Checks.dueThrow("7: guest", IAE, () -> x.weight(0, 3));
        Checks.dueThrow("7: guest", IAE, () -> x.weight(1, 6));
        Checks.dueThrow("7: guest", IAE, () -> x.weight(0, -1));
        Checks.dueThrow("7: party", NSEE, () -> x.weight(2, 0));
        Checks.dueThrow("7: party first", NSEE, () -> x.weight(-1, -1));
    }
}
