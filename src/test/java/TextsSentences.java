/** Promises 1 to 7: a new object, feed, wheel, rule, fault, party, weight. */
final class TextsSentences extends Sentences {
    private static final int BLANKS = 0x20202020;

    private TextsSentences() {
    }

    @Says(in = "What it is", words = "An object is used for at most 512 calls after it has been made; what later calls"
        + " answer is free.")
    static void a_512Calls() {
        GreatWheel x = new GreatWheel();
        for (int n = 1; n <= 510; n++) {
            due("rest", x.rest(2), 2 * n);
        }
        due("the 511th call", x.turn(), 0);
        due("the 512th call", x.count(9), 1022);
    }

    // ---- 1

    @Says(in = "Promise 1", words = "THE WHEEL without a text;")
    static void p01_wheelWithoutAText() {
        GreatWheel x = new GreatWheel();
        int[] want = {0, 8, 2, 200, 2, 20, 0};
        for (int what = 0; what < want.length; what++) {
            due("count(" + what + ")", x.count(what), want[what]);
        }
        due("fault(0)", x.fault(0), 0);
        due("fault(1)", x.fault(1), -1);
        dueThrow("party(0, 0)", NSEE, () -> x.party(0, 0));
        dueThrow("car(8, 0)", NSEE, () -> x.car(8, 0));
        due("steps", x.count(11), 0);
    }

    @Says(in = "Promise 1", words = "nobody is there;")
    static void p01_nobodyIsThere() {
        GreatWheel x = new GreatWheel();
        due("visits", x.count(7), 0);
        due("the foot", x.count(8), 0);
        due("the minute", x.count(9), 0);
        due("guests", x.count(10), 0);
        due("waits(0)", x.waits(0), -1);
        dueThrow("visit(0, 0)", NSEE, () -> x.visit(0, 0));
        for (int car = 0; car < 8; car++) {
            int[] want = {0, 0, 0, 3 * car, 0, -1};
            for (int what = 0; what < 6; what++) {
                due("car(" + car + ", " + what + ")", x.car(car, what), want[what]);
            }
            due("lean", x.lean(car), 0);
            due("worst", x.worst(car), 0);
        }
        due("sure", x.sure(), -1);
        due("top", x.top(), false);
    }

    @Says(in = "Promise 1", words = "TRAYS are MISSING;")
    static void p01_traysAreMissing() {
        GreatWheel x = new GreatWheel();
        for (int tray = 0; tray < 4; tray++) {
            int t = tray;
            dueThrow("perform", ISE, () -> x.perform(t));
            dueThrow("judge", ISE, () -> x.judge(t, 0));
            dueThrow("write", ISE, () -> x.write(t, 0, 0));
        }
    }

    @Says(in = "Promise 1", words = "an empty tape.")
    static void p01_emptyTape() {
        GreatWheel x = new GreatWheel();
        due("bytes", x.count(12), 0);
        dueThrow("wheel(1)", IAE, () -> x.wheel(1));
        dueThrow("rule(1)", IAE, () -> x.rule(1));
        due("wheel(0)", x.wheel(0), 0);
        due("rule(0)", x.rule(0), 0);
    }

    // ---- 2

    @Says(in = "Promise 2", words = "Twenty bytes come behind those on the tape, the highest of each int first: how many"
        + " it has;")
    static void p02_twentyBytesTheHighestFirst() {
        GreatWheel x = new GreatWheel();
        // "cars 12;seats 3;bag " and "45;minutes 6;       ".
        due("feed", x.feed(0x63617273, 0x2031323b, 0x73656174, 0x7320333b, 0x62616720), 20);
        due("bytes", x.count(12), 20);
        due("feed", x.feed(0x34353b6d, 0x696e7574, 0x65732036, 0x3b202020, BLANKS), 40);
        due("bytes", x.count(12), 40);
        due("wheel", x.wheel(40), 4);
        due("cars", x.count(1), 12);
        due("seats", x.count(2), 3);
        due("bag", x.count(5), 45);
        due("minutes", x.count(4), 6);
        // A high byte is one byte alone.
        for (int place = 0; place < 20; place++) {
            int[] ints = {BLANKS, BLANKS, BLANKS, BLANKS, BLANKS};
            ints[place / 4] |= 0xff << 24 - 8 * (place % 4);
            due("feed", x.feed(ints[0], ints[1], ints[2], ints[3], ints[4]), 20);
            due("wheel", x.wheel(20), -11);
            due("its place", x.fault(1), place);
        }
        for (int n = 1; n <= 40; n++) {
            due("feed", x.feed(BLANKS, BLANKS, BLANKS, BLANKS, BLANKS), 20 * n);
        }
    }

    @Says(in = "Promise 2", words = "NONE, and nothing changes, if there would be more than 800.")
    static void p02_noneAbove800() {
        GreatWheel x = new GreatWheel();
        for (int n = 0; n < 39; n++) {
            x.feed(BLANKS, BLANKS, BLANKS, BLANKS, BLANKS);
        }
        due("just 800", x.feed(BLANKS, BLANKS, BLANKS, BLANKS, BLANKS), 800);
        due("above", x.feed(0, 0, 0, 0, 0), -1);
        due("again", x.feed(-1, -1, -1, -1, -1), -1);
        due("bytes", x.count(12), 800);
        due("they are as they were", x.wheel(800), 0);
        Twins.dueUnchanged("feed above 800", y -> {
            y.rule(1);
            feed(y, "cars 12;bag 5;party 7 8 9;" + times(774, " "));
        }, y -> due("feed", y.feed(0, 0, 0, 0, 0), -1));
    }

    // ---- 3

    @Says(in = "Promise 3", words = "The first n bytes of the tape")
    static void p03_theFirstBytesAlone() {
        String text = "cars 4;bag 5;bag 6;";
        int[] ends = {0, 7, 13, 19};
        for (int n = 0; n <= 20; n++) {
            GreatWheel x = new GreatWheel();
            feed(x, text);
            int lines = n == 0 ? 0 : n == 7 ? 1 : n == 13 ? 2 : n == 19 ? 3 : -1;
            int got = x.wheel(n);
            due("wheel(" + n + ")", lines >= 0 ? got : got < -10 ? -1 : got, lines);
        }
        GreatWheel y = new GreatWheel();
        feed(y, text);
        due("two lines", y.wheel(ends[2]), 2);
        due("the bag of the second", y.count(5), 5);
    }

    @Says(in = "Promise 3", words = "(which is empty then)")
    static void p03_theTapeIsEmptyThen() {
        GreatWheel x = new GreatWheel();
        feed(x, "cars 4;cars 6;cars 8;cars 12;");
        due("wheel", x.wheel(7), 1);
        due("bytes", x.count(12), 0);
        dueThrow("the rest is gone", IAE, () -> x.wheel(1));
        feed(x, "bag 5;");
        due("what comes then is the first", x.wheel(6), 1);
        feed(x, "cars 5;");
        due("a fault", x.wheel(7), -13);
        due("bytes behind a fault", x.count(12), 0);
        feed(x, "cars 4;");
        due("none of the tape", x.wheel(0), 0);
        due("bytes", x.count(12), 0);
    }

    @Says(in = "Promise 3", words = "are THE WHEEL: nobody is there then, no sandbags, FOOT and MINUTE 0")
    static void p03_nobodyIsThereThen() {
        for (String text : new String[] {"", "cars 6;party 40;", "cars 12;party 40 fear;"}) {
            GreatWheel x = wheelOf("cars 6;bears 999;party 50 off 9 fear;");
            seat(x, 0);
            come(x, 0);
            x.bag(1, 4);
            x.bag(5, 4);
            turn(x, 3);
            due("top", x.top(), true);
            due("wheel", wheel(x, text) >= 0, true);
            due("visits", x.count(7), 0);
            due("the foot", x.count(8), 0);
            due("the minute", x.count(9), 0);
            due("guests", x.count(10), 0);
            due("waits", x.waits(0), -1);
            due("top", x.top(), false);
            for (int car = 0; car < x.count(1); car++) {
                due("guests", x.car(car, 0), 0);
                due("load", x.car(car, 1), 0);
                due("sandbags", x.car(car, 4), 0);
                due("first visit", x.car(car, 5), -1);
                due("lean", x.lean(car), 0);
                due("worst", x.worst(car), 0);
                turn(x, 1);
                due("top", x.top(), false);
            }
            dueThrow("visit(0, 0)", NSEE, () -> x.visit(0, 0));
        }
    }

    @Says(in = "Promise 3", words = "(THE RULE stays):")
    static void p03_theRuleStays() {
        GreatWheel x = wheelOf("cars 4;", "load;turn if late 1;hurry;");
        wheel(x, "cars 6;");
        due("steps", x.count(11), 3);
        due("so(1)", x.so(1), false);
        due("go", x.go(), 2);
        due("so(1)", x.so(1), true);
        due("go", x.go(), 1);
        x.wheel(0);
        due("steps", x.count(11), 3);
        // Trays and images stay too.
        put(x, 2, 0, 7);
        x.rest(5);
        x.image(1);
        wheel(x, "cars 12;");
        due("a tray", x.judge(2, 0), 1);
        x.restore(1);
        due("an image", x.count(9), 5);
    }

    @Says(in = "Promise 3", words = "how many LINES;")
    static void p03_howManyLines() {
        for (int lines = 0; lines <= 133; lines++) {
            GreatWheel x = dueWheel(times(lines, "bag 5;"), lines);
            due("count(0)", x.count(0), lines);
        }
    }

    @Says(in = "Promise 3", words = "-10 less the FAULT (all stays).")
    static void p03_lessTheFault() {
        due("fault 1", wheel(new GreatWheel(), "?"), -11);
        due("fault 2", wheel(new GreatWheel(), "cars"), -12);
        due("fault 3", wheel(new GreatWheel(), "cars 5;"), -13);
        due("fault 4", wheel(new GreatWheel(), "party 1 1 1 1 1 1 1;"), -14);
        String[] faulty = {"cars 12;party 5;?", "cars 12;party 5;cars", "cars 12;party 5;bears 0;",
            "cars 12;" + times(13, "party 5;"), "seats 1;bag 1;minutes 1;party 5 off 50 rides 9 fear"};
        for (String text : faulty) {
            // The tape and the fault are made the same again by a rule that is none.
            Twins.dueUnchanged("wheel of \"" + text + "\"", x -> x.rule(1), x -> {
                due("wheel of \"" + text + "\"", wheel(x, text) < -10, true);
                feed(x, "c");
                x.rule(1);
            });
        }
    }

    @Says(in = "Promise 3", words = "IllegalArgumentException: n is below 0 or above what it has.")
    static void p03_throws() {
        GreatWheel x = new GreatWheel();
        dueThrow("wheel(-1)", IAE, () -> x.wheel(-1));
        dueThrow("wheel(1) of none", IAE, () -> x.wheel(1));
        feed(x, "cars 4;");
        dueThrow("wheel(21) of 20", IAE, () -> x.wheel(21));
        dueThrow("wheel(-1) of 20", IAE, () -> x.wheel(-1));
        dueThrow("the least", IAE, () -> x.wheel(LEAST));
        dueThrow("the greatest", IAE, () -> x.wheel(GREATEST));
        due("the tape stays", x.count(12), 20);
        due("wheel(20) of 20 is a text", x.wheel(20), -11);
    }

    // ---- 4

    @Says(in = "Promise 4", words = "Likewise THE RULE")
    static void p04_likewise() {
        GreatWheel x = new GreatWheel();
        feed(x, "turn;load;empty;");
        due("the first bytes alone", x.rule(10), 2);
        due("the tape is empty then", x.count(12), 0);
        feed(x, "turn;?");
        due("-10 less the fault", x.rule(6), -11);
        due("all stays", x.count(11), 2);
        due("the tape is empty then", x.count(12), 0);
        due("fault 2", rule(x, "turn"), -12);
        due("fault 3", rule(x, "again 0 turn;"), -13);
        due("fault 4", rule(x, times(13, "turn;")), -14);
        due("fault 5", rule(x, "turn if (((((((((top;"), -15);
        due("all stays", x.count(11), 2);
        due("go by what stayed", x.go(), 0);
        dueThrow("rule(-1)", IAE, () -> x.rule(-1));
        dueThrow("rule(1) of none", IAE, () -> x.rule(1));
        feed(x, "turn;");
        dueThrow("rule(21) of 20", IAE, () -> x.rule(21));
        dueThrow("the least", IAE, () -> x.rule(LEAST));
        dueThrow("the greatest", IAE, () -> x.rule(GREATEST));
        due("the tape stays", x.count(12), 20);
        due("a text of nothing", x.rule(0), 0);
        due("no step", x.count(11), 0);
    }

    @Says(in = "Promise 4", words = "(nothing else changes):")
    static void p04_nothingElseChanges() {
        GreatWheel x = Twins.rich();
        int[] before = new int[13];
        for (int what = 0; what < 13; what++) {
            before[what] = x.count(what);
        }
        int lean = x.lean(2);
        int wait = x.visit(5, 4);
        x.rule(0);
        due("rule", rule(x, "turn;turn;"), 2);
        for (int what = 0; what < 11; what++) {
            due("count(" + what + ")", x.count(what), before[what]);
        }
        due("lean", x.lean(2), lean);
        due("wait", x.visit(5, 4), wait);
        due("a tray", x.judge(0, 0), Twins.rich().judge(0, 0));
        x.restore(1);
        due("an image's wheel", x.count(1), 4);
        due("an image's rule", x.count(11), 1);
    }

    @Says(in = "Promise 4", words = "Likewise THE RULE")
    static void p04_nothingOfTheRuleBefore() {
        GreatWheel x = wheelOf("", "again 3 load if late 9 or top;hurry if late 9;");
        due("so(0)", x.so(0), false);
        rule(x, "turn;empty;");
        due("without a test now", x.so(0), true);
        due("without a test now", x.so(1), true);
        due("go", x.go(), 0);
        due("once, not again", x.count(8), 1);
        // A text with a fault leaves nothing behind either.
        rule(x, "turn if late 9;load if late 9 ?");
        rule(x, "turn;turn if not late 9;");
        due("so(0)", x.so(0), true);
        due("so(1)", x.so(1), true);
    }

    @Says(in = "Promise 4", words = "how many STEPS.")
    static void p04_howManySteps() {
        for (int steps = 0; steps <= 12; steps++) {
            GreatWheel x = dueRule(times(steps, "turn if top;"), steps);
            due("count(11)", x.count(11), steps);
        }
    }

    // ---- 5

    @Says(in = "Promise 5", words = "Of the latest text that threw nothing,")
    static void p05_theLatestText() {
        GreatWheel x = new GreatWheel();
        wheel(x, "cars 5;");
        due("of the wheel", x.fault(0), 3);
        rule(x, "turn;?");
        due("of the rule", x.fault(0), 1);
        due("its place", x.fault(1), 5);
        dueThrow("a text that throws", IAE, () -> x.wheel(99));
        dueThrow("a text that throws", IAE, () -> x.rule(-1));
        due("of the latest that threw nothing", x.fault(0), 1);
        due("its place", x.fault(1), 5);
        wheel(x, "cars 4;");
        due("without one", x.fault(0), 0);
        rule(x, "turn");
        due("again", x.fault(0), 2);
        x.rule(0);
        due("an empty text", x.fault(0), 0);
        dueThrow("a text that throws", IAE, () -> x.rule(1));
        due("of the latest that threw nothing", x.fault(0), 0);
    }

    @Says(in = "Promise 5", words = "what 0: the FAULT (0 without, and at first), 1: its place (NONE without).")
    static void p05_whats() {
        GreatWheel x = new GreatWheel();
        due("at first", x.fault(0), 0);
        due("at first", x.fault(1), -1);
        rule(x, "turn if (((((((((top");
        due("kind 5", x.fault(0), 5);
        due("its place", x.fault(1), 16);
        rule(x, "turn;");
        due("without", x.fault(0), 0);
        due("without", x.fault(1), -1);
        wheel(x, "?");
        due("kind 1", x.fault(0), 1);
        due("at the first byte", x.fault(1), 0);
        wheel(x, times(796, " ") + "cars");
        due("kind 2", x.fault(0), 2);
        due("at the end of 800", x.fault(1), 800);
    }

    @Says(in = "Promise 5", words = "NONE for others.")
    static void p05_others() {
        GreatWheel x = new GreatWheel();
        wheel(x, "cars 5;");
        for (int what : new int[] {-1, 2, 3, 99, LEAST, GREATEST}) {
            due("fault(" + what + ")", x.fault(what), -1);
        }
    }

    // ---- 6

    @Says(in = "Promise 6", words = "Of a PARTY, what 0: guests, 1: all WEIGHTS, 2: off, 3: rides, 4: 1 with FEAR, else 0.")
    static void p06_whats() {
        GreatWheel x = wheelOf("party 50 60 70 off 4 rides 3 fear;party 200;party 1 2 3 4 5 6 off 50 rides 9;"
                + "party 200 200 200 200 200 200;");
        int[][] want = {{3, 180, 4, 3, 1}, {1, 200, 0, 1, 0}, {6, 21, 50, 9, 0}, {6, 1200, 0, 1, 0}};
        for (int p = 0; p < want.length; p++) {
            for (int what = 0; what < 5; what++) {
                due("party(" + p + ", " + what + ")", x.party(p, what), want[p][what]);
            }
        }
    }

    @Says(in = "Promise 6", words = "NoSuchElementException: no such PARTY (as everywhere);")
    static void p06_noSuchParty() {
        for (int parties = 0; parties <= 12; parties++) {
            GreatWheel x = wheelOf(times(parties, "party 5;"));
            for (int p : new int[] {-1, parties, 12, LEAST, GREATEST}) {
                dueThrow("party(" + p + ", 0)", NSEE, () -> x.party(p, 0));
                dueThrow("weight(" + p + ", 0)", NSEE, () -> x.weight(p, 0));
                dueThrow("come(" + p + ")", NSEE, () -> x.come(p));
            }
            if (parties > 0) {
                due("the last party", x.party(parties - 1, 1), 5);
            }
        }
    }

    @Says(in = "Promise 6", words = "IllegalArgumentException: another what.")
    static void p06_anotherWhat() {
        GreatWheel x = wheelOf("party 5;");
        for (int what : new int[] {-1, 5, 6, LEAST, GREATEST}) {
            dueThrow("party(0, " + what + ")", IAE, () -> x.party(0, what));
        }
    }

    // ---- 7

    @Says(in = "Promise 7", words = "WEIGHT of a guest of a PARTY.")
    static void p07_weight() {
        GreatWheel x = wheelOf("party 1 2 3 4 5 6 off 9;party 200;party 70 71;");
        for (int guest = 0; guest < 6; guest++) {
            due("weight(0, " + guest + ")", x.weight(0, guest), guest + 1);
        }
        due("weight(1, 0)", x.weight(1, 0), 200);
        due("weight(2, 0)", x.weight(2, 0), 70);
        due("weight(2, 1)", x.weight(2, 1), 71);
    }

    @Says(in = "Promise 7", words = "IllegalArgumentException: no such guest.")
    static void p07_noSuchGuest() {
        for (int guests = 1; guests <= 6; guests++) {
            GreatWheel x = wheelOf("party" + times(guests, " 5") + ";party 1 2 3 4 5 6;");
            due("the last guest", x.weight(0, guests - 1), 5);
            for (int guest : new int[] {-1, guests, 6, LEAST, GREATEST}) {
                dueThrow("weight(0, " + guest + ")", IAE, () -> x.weight(0, guest));
            }
        }
    }
}
