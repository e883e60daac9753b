/** The Terms behind "==== 1.": the texts, their tokens and their faults. */
final class TermsOneSentences extends Sentences {
    private static final String FACTS_OF_N = "done room waits leans late long full";

    private TermsOneSentences() {
    }

    private static void dueSettings(GreatWheel x, int... want) {
        for (int i = 0; i < want.length; i++) {
            due("count(" + (i + 1) + ")", x.count(i + 1), want[i]);
        }
    }

    /** Every N that can be written is tried between the two words; at is the place of N. */
    private static void dueBounds(String ahead, String behind, int least, int most) {
        for (int n = 0; n <= 999; n++) {
            String text = ahead + n + behind;
            if (n >= least && n <= most) {
                dueWheel(text, 1);
            } else {
                dueWheelFault(text, 3, ahead.length());
            }
        }
    }

    // ---- THE WHEEL

    @Says(in = "Terms 1", words = "THE WHEEL is a TEXT of at most 800 bytes")
    static void t1_wheelOf800Bytes() {
        String text = times(99, "bag 12; ") + "bag 34; ";
        GreatWheel x = new GreatWheel();
        due("wheel(800)", wheel(x, text), 100);
        due("the last line is read", x.count(5), 34);
        due("all 800 are on the tape", feed(x, text), x.count(12));
        due("no more can come", x.feed(0, 0, 0, 0, 0), -1);
        dueThrow("wheel(801)", IAE, () -> x.wheel(801));
    }

    @Says(in = "Terms 1", words = "(without one: 8 CARS, 2 seats, bears 200, minutes 2, bag 20, no PARTIES):")
    static void t1_wheelWithoutText() {
        dueSettings(new GreatWheel(), 8, 2, 200, 2, 20, 0);
        GreatWheel x = wheelOf("cars 4;seats 6;bears 1;minutes 9;bag 99;party 5;");
        dueSettings(x, 4, 6, 1, 9, 99, 1);
        due("a text of nothing", x.wheel(0), 0);
        dueSettings(x, 8, 2, 200, 2, 20, 0);
        wheel(x, "cars 4;seats 6;bears 1;minutes 9;bag 99;party 5;");
        due("a text of one line", wheel(x, "cars 12;"), 1);
        dueSettings(x, 12, 2, 200, 2, 20, 0);
    }

    @Says(in = "Terms 1", words = "{ LINE ; }")
    static void t1_everyLineHasItsSemicolon() {
        dueWheel("", 0);
        dueWheel("cars 4;", 1);
        dueWheel("cars 4;cars 6;bag 9;", 3);
        dueWheelFault("cars 4", 2, 6);
        dueWheelFault("cars 4;cars 6", 2, 13);
        dueWheelFault(";", 2, 0);
        dueWheelFault("cars 4;;", 2, 7);
        dueWheelFault("cars 4 cars 6;", 2, 7);
    }

    @Says(in = "Terms 1", words = "LINE: cars N | seats N | bears N | minutes N | bag N |")
    static void t1_lineOfAWordAndN() {
        String[] words = {"cars", "seats", "bears", "minutes", "bag"};
        int[] plain = {8, 2, 200, 2, 20};
        for (int i = 0; i < 5; i++) {
            int[] want = plain.clone();
            want[i] = 6;
            dueSettings(dueWheel(words[i] + " 6;", 1), want);
            int end = words[i].length();
            dueWheelFault(words[i] + ";", 2, end);
            dueWheelFault(words[i] + " 6 6;", 2, end + 3);
            dueWheelFault(words[i] + " fear;", 2, end + 1);
            dueWheelFault(words[i] + " " + words[i] + " 6;", 2, end + 1);
            dueWheelFault(words[i] + " 6 off 6;", 2, end + 3);
            dueWheelFault(words[i] + "s 6;", 2, 0);
            dueWheelFault(words[i].substring(1) + " 6;", 2, 0);
            dueWheelFault(words[i].substring(0, 2) + " 6;", 2, 0);
        }
        for (String word : "off rides fear again load empty turn hurry round if not and or top late x".split(" ")) {
            dueWheelFault(word + " 1;", 2, 0);
        }
        dueWheelFault("6;", 2, 0);
        dueWheelFault("(cars 6);", 2, 0);
        dueWheelFault("cars (6);", 2, 5);
    }

    @Says(in = "Terms 1", words = "party N { N } [ off N ] [ rides N ] [ fear ].")
    static void t1_lineOfAParty() {
        for (int some = 0; some < 8; some++) {
            for (int guests = 1; guests <= 6; guests++) {
                GreatWheel x = dueWheel("party" + times(guests, " 9") + ((some & 1) != 0 ? " off 7" : "")
                        + ((some & 2) != 0 ? " rides 5" : "") + ((some & 4) != 0 ? " fear" : "") + ";", 1);
                int[] want = {guests, 9 * guests, (some & 1) != 0 ? 7 : 0, (some & 2) != 0 ? 5 : 1, some >> 2};
                for (int what = 0; what < 5; what++) {
                    due("party(0, " + what + ")", x.party(0, what), want[what]);
                }
            }
        }
        dueWheelFault("party;", 2, 5);
        dueWheelFault("party off 5;", 2, 6);
        dueWheelFault("party fear;", 2, 6);
        dueWheelFault("party 9 off;", 2, 11);
        dueWheelFault("party 9 off fear;", 2, 12);
        dueWheelFault("party 9 rides;", 2, 13);
        dueWheelFault("party 9 off 7 8;", 2, 14);
        dueWheelFault("party 9 rides 7 8;", 2, 16);
        dueWheelFault("party 9 fear 8;", 2, 13);
        dueWheelFault("party 9 off 7 off 7;", 2, 14);
        dueWheelFault("party 9 rides 7 rides 7;", 2, 16);
        dueWheelFault("party 9 fear fear;", 2, 13);
        dueWheelFault("party 9 rides 7 off 7;", 2, 16);
        dueWheelFault("party 9 fear off 7;", 2, 13);
        dueWheelFault("party 9 fear rides 7;", 2, 13);
        dueWheelFault("party 9 party 9;", 2, 8);
        dueWheelFault("party 9 bag 9;", 2, 8);
    }

    @Says(in = "Terms 1", words = "cars 4, 6, 8 or 12;")
    static void t1_carsAre4Or6Or8Or12() {
        for (int n = 0; n <= 999; n++) {
            if (n == 4 || n == 6 || n == 8 || n == 12) {
                GreatWheel x = dueWheel("cars " + n + ";", 1);
                due("count(1)", x.count(1), n);
                due("the last car stands", x.car(n - 1, 4), 0);
                dueThrow("one car more", NSEE, () -> x.car(x.count(1), 4));
            } else {
                dueWheelFault("cars " + n + ";", 3, 5);
            }
        }
    }

    @Says(in = "Terms 1", words = "seats 1 to 6 (of each CAR);")
    static void t1_seatsOfEachCar() {
        dueBounds("seats ", ";", 1, 6);
        for (int seats = 1; seats <= 6; seats++) {
            GreatWheel x = wheelOf("cars 4;seats " + seats + ";bears 999;party 5;");
            for (int car = 0; car < 4; car++) {
                for (int n = 0; n < seats; n++) {
                    due("load into car " + car, x.load(x.come(0)), 0);
                }
                due("one more into car " + car, x.load(x.come(0)), 2);
                x.turn();
            }
        }
    }

    @Says(in = "Terms 1", words = "bears 1 to 999;")
    static void t1_bears() {
        dueBounds("bears ", ";", 1, 999);
        due("count(3)", dueWheel("bears 1;", 1).count(3), 1);
        due("count(3)", dueWheel("bears 999;", 1).count(3), 999);
    }

    @Says(in = "Terms 1", words = "minutes 1 to 9 (a TURN);")
    static void t1_minutesOfATurn() {
        dueBounds("minutes ", ";", 1, 9);
        for (int minutes = 1; minutes <= 9; minutes++) {
            GreatWheel x = wheelOf("minutes " + minutes + ";");
            turn(x, 3);
            due("the minute behind three turns", x.count(9), 3 * minutes);
        }
    }

    @Says(in = "Terms 1", words = "bag 1 to 99 (a sandbag's weight);")
    static void t1_bagIsASandbagsWeight() {
        dueBounds("bag ", ";", 1, 99);
        for (int weight = 1; weight <= 99; weight++) {
            GreatWheel x = wheelOf("bag " + weight + ";");
            x.bag(3, 2);
            due("load of two bags", x.car(3, 1), 2 * weight);
        }
    }

    @Says(in = "Terms 1", words = "later ones strike.")
    static void t1_laterLinesStrike() {
        dueSettings(dueWheel("cars 4;cars 12;cars 6;", 3), 6, 2, 200, 2, 20, 0);
        dueSettings(dueWheel("seats 6;seats 1;", 2), 8, 1, 200, 2, 20, 0);
        dueSettings(dueWheel("bears 9;bears 999;", 2), 8, 2, 999, 2, 20, 0);
        dueSettings(dueWheel("minutes 9;bag 1;minutes 3;", 3), 8, 2, 200, 3, 1, 0);
        dueSettings(dueWheel("bag 9;bag 99;bag 98;", 3), 8, 2, 200, 2, 98, 0);
    }

    @Says(in = "Terms 1", words = "PARTIES are numbered from 0 on as they come, 12 at most:")
    static void t1_partiesAreTwelveAtMost() {
        StringBuilder b = new StringBuilder();
        for (int party = 0; party < 12; party++) {
            b.append("party ").append(100 + party).append(";");
            GreatWheel x = dueWheel(b.toString(), party + 1);
            due("count(6)", x.count(6), party + 1);
            for (int p = 0; p <= party; p++) {
                due("weight(" + p + ", 0)", x.weight(p, 0), 100 + p);
            }
            dueThrow("one party more", NSEE, () -> x.party(x.count(6), 0));
        }
        dueWheelFault(b + "party 112;", 4, b.length());
    }

    @Says(in = "Terms 1", words = "of 1 to 6 guests their WEIGHTS (1 to 200 each);")
    static void t1_guestsAndWeights() {
        dueWheelFault("party ;", 2, 6);
        for (int guests = 1; guests <= 6; guests++) {
            GreatWheel x = dueWheel("party" + times(guests, " 77") + ";", 1);
            due("guests", x.party(0, 0), guests);
            dueBounds("party " + times(guests - 1, "200 "), ";", 1, 200);
        }
        dueWheelFault("party 1 2 3 4 5 6 7;", 4, 18);
    }

    @Says(in = "Terms 1", words = "off 0 to 50 (0 without): by so much each WEIGHT may be more or less;")
    static void t1_off() {
        dueBounds("party 9 off ", ";", 0, 50);
        due("without", dueWheel("party 9;", 1).party(0, 2), 0);
        for (int off = 0; off <= 50; off++) {
            GreatWheel x = wheelOf("cars 4;bears 999;party 60 60 off " + off + ";");
            due("off", x.party(0, 2), off);
            seat(x, 0);
            due("both guests more", x.worst(1), 100 * (120 + 2 * off));
            due("both guests less", x.worst(3), 100 * (120 + 2 * off));
        }
    }

    @Says(in = "Terms 1", words = "rides 1 to 9 (1 without);")
    static void t1_rides() {
        dueBounds("party 9 rides ", ";", 1, 9);
        dueBounds("party 9 off 1 rides ", " fear;", 1, 9);
        due("without", dueWheel("party 9;", 1).party(0, 3), 1);
        due("least", dueWheel("party 9 rides 1;", 1).party(0, 3), 1);
        due("most", dueWheel("party 9 rides 9;", 1).party(0, 3), 9);
    }

    @Says(in = "Terms 1", words = "FEAR (told or not).")
    static void t1_fear() {
        GreatWheel x = dueWheel("party 9 fear;party 9;party 9 rides 2 fear;", 3);
        due("told", x.party(0, 4), 1);
        due("not told", x.party(1, 4), 0);
        due("told", x.party(2, 4), 1);
    }

    // ---- THE RULE

    @Says(in = "Terms 1", words = "THE RULE is a TEXT likewise (empty at first):")
    static void t1_ruleIsEmptyAtFirst() {
        GreatWheel x = new GreatWheel();
        due("no step", x.count(11), 0);
        dueThrow("so(0)", NSEE, () -> x.so(0));
        due("go()", x.go(), -1);
        String text = "turn if late 2" + times(70, " or late 12") + " or late 01;" + times(4, " ");
        due("a rule of 800 bytes", text.length(), 800);
        due("rule(800)", rule(x, text), 1);
        due("its facts are read to the end", x.so(0), true);
        dueThrow("rule(801)", IAE, () -> x.rule(801));
    }

    @Says(in = "Terms 1", words = "{ STEP ; }")
    static void t1_everyStepHasItsSemicolon() {
        dueRule("", 0);
        dueRule("turn;", 1);
        dueRule("turn;load;empty;", 3);
        dueRuleFault("turn", 2, 4);
        dueRuleFault("turn;load", 2, 9);
        dueRuleFault(";", 2, 0);
        dueRuleFault("turn;;", 2, 5);
        dueRuleFault("turn turn;", 2, 5);
    }

    @Says(in = "Terms 1", words = "STEP: [ again N ] ACT [ if TEST ].")
    static void t1_step() {
        dueRule("turn;again 2 turn;turn if top;again 2 turn if top;", 4);
        dueRuleFault("again turn;", 2, 6);
        dueRuleFault("again 2;", 2, 7);
        dueRuleFault("again 2 if top;", 2, 8);
        dueRuleFault("again 2 again 2 turn;", 2, 8);
        dueRuleFault("2 turn;", 2, 0);
        dueRuleFault("turn again 2;", 2, 5);
        dueRuleFault("turn if;", 2, 7);
        dueRuleFault("turn top;", 2, 5);
        dueRuleFault("turn if top if top;", 2, 12);
        dueRuleFault("if top turn;", 2, 0);
        dueRuleFault("top;", 2, 0);
    }

    @Says(in = "Terms 1", words = "ACT: empty | load | turn | hurry | round.")
    static void t1_act() {
        for (String act : "empty load turn hurry round".split(" ")) {
            dueRule(act + ";", 1);
            dueRule("again 3 " + act + " if top;", 1);
            dueRuleFault(act + " 1;", 2, act.length() + 1);
            dueRuleFault(act + "s;", 2, 0);
            dueRuleFault(act.substring(1) + ";", 2, 0);
            dueRuleFault("turn if " + act + ";", 2, 8);
        }
        for (String other : "cars party bag off rides fear not and or top done rest x ( ) 5".split(" ")) {
            dueRuleFault(other + ";", 2, 0);
            dueRuleFault("again 2 " + other + ";", 2, 8);
        }
    }

    private static void dueSo(GreatWheel x, String test, boolean want) {
        due("rule of " + test, rule(x, "turn if " + test + ";"), 1);
        due("so with " + test, x.so(0), want);
    }

    @Says(in = "Terms 1", words = "TEST: PART { or PART }.")
    static void t1_testIsOneOfItsParts() {
        GreatWheel x = new GreatWheel();
        x.rest(5);
        dueSo(x, "late 5", true);
        dueSo(x, "late 6", false);
        dueSo(x, "late 6 or late 6", false);
        dueSo(x, "late 6 or late 5", true);
        dueSo(x, "late 5 or late 6", true);
        dueSo(x, "late 5 or late 5", true);
        dueSo(x, "late 6 or late 6 or late 5 or late 6", true);
        dueSo(x, "late 6" + times(60, " or late 6"), false);
        dueSo(x, "late 6" + times(60, " or late 6") + " or late 5", true);
        dueSo(x, "late 5" + times(60, " or late 6"), true);
        // and holds its facts together ahead of or.
        dueSo(x, "late 5 or late 5 and late 6", true);
        dueSo(x, "late 6 and late 5 or late 5", true);
        dueSo(x, "late 6 and late 5 or late 6 and late 5", false);
        dueRuleFault("turn if or top;", 2, 8);
        dueRuleFault("turn if top or;", 2, 14);
        dueRuleFault("turn if top or or top;", 2, 15);
        dueRuleFault("turn if top top;", 2, 12);
    }

    @Says(in = "Terms 1", words = "PART: FACT { and FACT }.")
    static void t1_partIsAllOfItsFacts() {
        GreatWheel x = new GreatWheel();
        x.rest(5);
        dueSo(x, "late 5 and late 5", true);
        dueSo(x, "late 5 and late 6", false);
        dueSo(x, "late 6 and late 5", false);
        dueSo(x, "late 6 and late 6", false);
        dueSo(x, "late 5 and late 5 and late 6 and late 5", false);
        dueSo(x, "late 5" + times(60, " and late 5"), true);
        dueSo(x, "late 5" + times(60, " and late 5") + " and late 6", false);
        dueSo(x, "late 6" + times(60, " and late 5"), false);
        dueRuleFault("turn if and top;", 2, 8);
        dueRuleFault("turn if top and;", 2, 15);
        dueRuleFault("turn if top and or top;", 2, 16);
    }

    @Says(in = "Terms 1", words = {"FACT: not FACT | ( TEST ) |",
        "done N | room N | waits N | leans N | late N | long N | full N | top."})
    static void t1_fact() {
        GreatWheel x = new GreatWheel();
        x.rest(5);
        dueSo(x, "not late 5", false);
        dueSo(x, "not late 6", true);
        dueSo(x, "not not late 5", true);
        dueSo(x, "not not not late 5", false);
        // not holds the next fact alone.
        dueSo(x, "not late 5 or late 5", true);
        dueSo(x, "not late 6 and late 6", false);
        dueSo(x, "not (late 5 or late 5)", false);
        dueSo(x, "not (late 6 and late 6)", true);
        dueSo(x, "(late 5)", true);
        dueSo(x, "(late 6)", false);
        dueSo(x, "(late 5 or late 5) and late 6", false);
        dueSo(x, "late 6 and (late 5 or late 5)", false);
        dueSo(x, "late 5 and (late 6 or late 5)", true);
        for (String fact : FACTS_OF_N.split(" ")) {
            dueRule("turn if " + fact + " 1;", 1);
            dueRule("turn if not(" + fact + " 1)and not " + fact + " 2;", 1);
            dueRuleFault("turn if " + fact + ";", 2, 8 + fact.length());
            dueRuleFault("turn if " + fact + " top;", 2, 9 + fact.length());
            dueRuleFault("turn if " + fact + " 1 1;", 2, 11 + fact.length());
            dueRuleFault("turn if " + fact + "s 1;", 2, 8);
            dueRuleFault("turn if " + fact.substring(1) + " 1;", 2, 8);
        }
        dueRule("turn if top;", 1);
        dueRuleFault("turn if top 1;", 2, 12);
        dueRuleFault("turn if 1;", 2, 8);
        dueRuleFault("turn if not;", 2, 11);
        dueRuleFault("turn if not and top;", 2, 12);
        dueRuleFault("turn if ();", 2, 9);
        dueRuleFault("turn if (top;", 2, 12);
        dueRuleFault("turn if top);", 2, 11);
        dueRuleFault("turn if (top));", 2, 13);
        dueRuleFault("turn if ((top);", 2, 14);
        dueRuleFault("turn if );", 2, 8);
        dueRuleFault("turn if cars 4;", 2, 8);
        dueRuleFault("turn if if top;", 2, 8);
    }

    @Says(in = "Terms 1", words = "again 1 to 9 (1 without),")
    static void t1_again() {
        for (int n = 0; n <= 999; n++) {
            if (n >= 1 && n <= 9) {
                GreatWheel x = dueRule("again " + n + " turn;", 1);
                x.go();
                due("turns of again " + n, x.count(8), n % 8);
                due("minutes of again " + n, x.count(9), 2 * n);
            } else {
                dueRuleFault("again " + n + " turn;", 3, 6);
            }
        }
        GreatWheel x = dueRule("turn;", 1);
        x.go();
        due("one turn without again", x.count(8), 1);
        GreatWheel y = dueRule("again 5 load;turn;", 2);
        due("the step without again", y.go(), 1);
        due("an earlier step's again doesn't last", y.count(8), 1);
    }

    @Says(in = "Terms 1", words = "N 0 to 999;")
    static void t1_numbersOfFacts() {
        for (String fact : FACTS_OF_N.split(" ")) {
            for (int n = 0; n <= 999; n++) {
                dueRule("turn if " + fact + " " + n + ";", 1);
            }
            dueRuleFault("turn if " + fact + " 1000;", 1, 9 + fact.length());
        }
        GreatWheel x = new GreatWheel();
        x.rest(998);
        dueSo(x, "late 998", true);
        dueSo(x, "late 999", false);
        x.rest(1);
        dueSo(x, "late 999", true);
    }

    @Says(in = "Terms 1", words = "at most 12 STEPS.")
    static void t1_twelveSteps() {
        for (int steps = 1; steps <= 12; steps++) {
            GreatWheel x = dueRule(times(steps - 1, "load if late 9;") + "turn;", steps);
            due("count(11)", x.count(11), steps);
            due("the last step is done", x.go(), steps - 1);
            dueThrow("one step more", NSEE, () -> x.so(x.count(11)));
        }
        dueRuleFault(times(12, "turn;") + "turn;", 4, 60);
    }

    // ---- TOKENS

    @Says(in = "Terms 1", words = "TOKENS of both, as long as they go, between them blanks (10, 32):")
    static void t1_tokensAndBlanks() {
        GreatWheel x = dueWheel("cars12;party9 8off7rides6fear;", 2);
        due("cars", x.count(1), 12);
        due("the first weight", x.weight(0, 0), 9);
        due("the second weight", x.weight(0, 1), 8);
        due("off", x.party(0, 2), 7);
        due("rides", x.party(0, 3), 6);
        due("fear", x.party(0, 4), 1);
        dueRule("again3turn if late3and(late4)or not late5;", 1);
        dueWheelFault("carsfour;", 2, 0);
        dueWheelFault("party 9 fearoff 7;", 2, 8);
        dueWheelFault("ca rs 4;", 2, 0);
        dueWheelFault("cars 1 2;", 3, 5);
        dueWheel("bag 9 ;", 1);
        due("9 9 are two", dueWheel("party 9 9;", 1).party(0, 0), 2);
        due("99 is one", dueWheel("party 99;", 1).party(0, 0), 1);
        dueRuleFault("turnif top;", 2, 0);
        dueRuleFault("turn iftop;", 2, 5);
        dueRuleFault("turn if nottop;", 2, 8);
        for (int one = 0; one < 256; one++) {
            String sign = String.valueOf((char) one);
            boolean blank = one == 10 || one == 32;
            GreatWheel y = new GreatWheel();
            due("byte " + one + " as a blank", wheel(y, sign + "cars" + sign + "4" + sign + ";" + sign) == 1, blank);
            due("byte " + one + " as a blank of a rule", rule(y, sign + "turn" + sign + ";" + sign) == 1, blank);
        }
        dueWheel(times(797, "\n") + "   ", 0);
        dueWheel(" \n \n cars\n\n  4\n ; \n", 1);
        dueRule(" \n again\n 3 \nturn  \n; \n ", 1);
    }

    @Says(in = "Terms 1", words = "words (small letters), N (1 to 3 digits), the signs ; ( ).")
    static void t1_wordsNumbersSigns() {
        for (int one = 0; one < 256; one++) {
            boolean token = one >= 'a' && one <= 'z' || one >= '0' && one <= '9' || one == ';' || one == '('
                    || one == ')';
            boolean blank = one == 10 || one == 32;
            String sign = String.valueOf((char) one);
            if (!blank) {
                // A token can't stand alone; what is no token is another fault.
                dueWheelFault(sign, token ? 2 : 1, 0);
                dueRuleFault(sign, token ? 2 : 1, 0);
                dueWheelFault("bag 5;\n " + sign + "5;", token ? 2 : 1, 8);
            }
        }
        dueWheelFault("Bag 5;", 1, 0);
        dueWheelFault("bAg 5;", 2, 0);
        dueWheelFault("bag_ 5;", 1, 3);
        due("1 digit", dueWheel("bears 7;", 1).count(3), 7);
        due("2 digits", dueWheel("bears 78;", 1).count(3), 78);
        due("3 digits", dueWheel("bears 789;", 1).count(3), 789);
        due("3 digits with 0 ahead", dueWheel("bears 007;", 1).count(3), 7);
        due("2 digits with 0 ahead", dueWheel("cars 04;", 1).count(1), 4);
    }

    // ---- FAULTS

    @Says(in = "Terms 1", words = "FAULTS, the first along the text,")
    static void t1_theFirstFaultAlongTheText() {
        dueWheelFault("seats 7 ? cars", 3, 6);
        dueWheelFault("cars cars 1234 ?", 2, 5);
        dueWheelFault("bag 5? seats 7;", 1, 5);
        dueWheelFault("party 1 2 3 4 5 6 7 ? 0;", 4, 18);
        dueWheelFault(times(12, "party 5;") + "party 0 ?;", 4, 96);
        dueWheelFault("party 0 201 ;;", 3, 6);
        dueRuleFault("again 0 again ?", 3, 6);
        dueRuleFault("turn if (((((((((? 1234", 5, 16);
        dueRuleFault(times(12, "turn;") + "turn if ?", 4, 60);
        dueRuleFault("turn turn ?", 2, 5);
        dueRuleFault("turn if late 1234 (", 1, 13);
    }

    @Says(in = "Terms 1", words = "of one TOKEN the least kind:")
    static void t1_ofOneTokenTheLeastKind() {
        // Kinds that fall on one token: 1 and 2, 1 and 3, 1 and 4, 2 and 3, 2 and 4, 2 and 5, 3 and 4.
        dueWheelFault("1234;", 1, 0);
        dueWheelFault("bag 5 ?", 1, 6);
        dueWheelFault("bears 1000;", 1, 6);
        dueWheelFault("party 1 2 3 4 5 6 1234;", 1, 18);
        dueWheelFault("cars 4 999;", 2, 7);
        dueWheelFault(times(12, "party 5;") + "partys 5;", 2, 96);
        dueWheelFault("party 1 2 3 4 5 6 0;", 3, 18);
        dueWheelFault("party 1 2 3 4 5 6 201;", 3, 18);
        dueRuleFault(times(12, "turn;") + "?", 1, 60);
        dueRuleFault(times(12, "turn;") + "1234", 1, 60);
        dueRuleFault(times(12, "turn;") + "turns;", 2, 60);
        dueRuleFault(times(12, "turn;") + ";", 2, 60);
        dueRuleFault(times(12, "turn;") + "5;", 2, 60);
        dueRuleFault("turn if ((((((((top (", 2, 20);
        dueRuleFault("turn if ((((((((top not", 2, 20);
        dueRuleFault("turn 999;", 2, 5);
    }

    @Says(in = "Terms 1", words = "1 no TOKEN begins so (4 digits and more: at their first).")
    static void t1_fault1() {
        for (int digits = 1; digits <= 30; digits++) {
            String number = times(digits - 1, "0") + "5";
            if (digits <= 3) {
                dueWheel("bag " + number + ";", 1);
                dueRule("turn if late " + number + ";", 1);
            } else {
                dueWheelFault("bag " + number + ";", 1, 4);
                dueWheelFault("party 5 " + number + ";", 1, 8);
                dueWheelFault("party 5 off " + number + ";", 1, 12);
                dueWheelFault("party 5 rides " + number + ";", 1, 14);
                dueRuleFault("again " + number + " turn;", 1, 6);
                dueRuleFault("turn if late " + number + ";", 1, 13);
            }
        }
        dueWheelFault("bag 5" + times(795, "9"), 1, 4);
        dueWheelFault("bag ?;", 1, 4);
        dueWheelFault("bag 5,", 1, 5);
        dueWheelFault("bag -5;", 1, 4);
        dueWheelFault("cars 4;\t", 1, 7);
        dueRuleFault("turn if late 5 & late 6;", 1, 15);
        dueRuleFault("turn if !top;", 1, 8);
        dueRuleFault("turn.", 1, 4);
    }

    @Says(in = "Terms 1", words = "2 it can't stand there (the end: the text's length).")
    static void t1_fault2() {
        dueWheelFault("cars", 2, 4);
        dueWheelFault("cars ", 2, 5);
        dueWheelFault("cars \n\n ", 2, 8);
        dueWheelFault("cars 4", 2, 6);
        dueWheelFault("cars 4   ", 2, 9);
        dueWheelFault("party", 2, 5);
        dueWheelFault("party 5", 2, 7);
        dueWheelFault("party 5 off", 2, 11);
        dueWheelFault("party 5 off 5", 2, 13);
        dueWheelFault("party 5 rides", 2, 13);
        dueWheelFault("party 5 rides 5", 2, 15);
        dueWheelFault("party 5 fear", 2, 12);
        dueWheelFault("bag 5;bag", 2, 9);
        dueWheelFault(times(799, " ") + "x", 2, 799);
        dueWheelFault(times(796, " ") + "bag ", 2, 800);
        dueRuleFault("again", 2, 5);
        dueRuleFault("again 5", 2, 7);
        dueRuleFault("again 5 turn", 2, 12);
        dueRuleFault("turn if", 2, 7);
        dueRuleFault("turn if not", 2, 11);
        dueRuleFault("turn if (", 2, 9);
        dueRuleFault("turn if (top", 2, 12);
        dueRuleFault("turn if (top)", 2, 13);
        dueRuleFault("turn if late", 2, 12);
        dueRuleFault("turn if late 5 and", 2, 18);
        dueRuleFault("turn if late 5 or \n", 2, 19);
        dueRuleFault("turn if late 5 load;", 2, 15);
    }

    @Says(in = "Terms 1", words = "3 N is out of its bounds.")
    static void t1_fault3() {
        dueWheelFault("cars 5;", 3, 5);
        dueWheelFault("bag 5; cars 000 ;", 3, 12);
        dueWheelFault("seats 0;", 3, 6);
        dueWheelFault("seats 7;", 3, 6);
        dueWheelFault("bears 0;", 3, 6);
        dueWheelFault("minutes 0;", 3, 8);
        dueWheelFault("minutes 10;", 3, 8);
        dueWheelFault("bag 0;", 3, 4);
        dueWheelFault("bag 100;", 3, 4);
        dueWheelFault("party 0;", 3, 6);
        dueWheelFault("party 200 201;", 3, 10);
        dueWheelFault("party 200 off 51;", 3, 14);
        dueWheelFault("party 200 rides 0;", 3, 16);
        dueWheelFault("party 200 rides 10;", 3, 16);
        dueRuleFault("again 0 turn;", 3, 6);
        dueRuleFault("turn;again 10 turn;", 3, 11);
    }

    @Says(in = "Terms 1", words = "4 the first TOKEN of a 13th party, of a 13th STEP; a 7th guest.")
    static void t1_fault4() {
        String parties = times(12, "party 5;");
        dueWheel(parties + "cars 4;bag 5;", 14);
        dueWheelFault(parties + "party 5;", 4, 96);
        dueWheelFault(parties + "cars 4; \nparty", 4, 105);
        dueWheelFault(parties + "party ?", 4, 96);
        String steps = times(11, "load;") + "turn if top;";
        dueRule(steps, 12);
        dueRuleFault(steps + "  load;", 4, 69);
        dueRuleFault(steps + "again 2 load;", 4, 67);
        dueRuleFault(steps + "again ?", 4, 67);
        for (String act : "empty load turn hurry round".split(" ")) {
            dueRuleFault(steps + act, 4, 67);
        }
        dueWheel("party 1 2 3 4 5 6;", 1);
        dueWheelFault("party 1 2 3 4 5 6 7;", 4, 18);
        dueWheelFault("party 1 2 3 4 5 6 200", 4, 18);
        dueWheelFault("party 1 2 3 4 5 6;party 1 2 3 4 5 6 7;", 4, 36);
        dueWheel("party 1 2 3 4 5 6 off 7 rides 8 fear;", 1);
    }

    @Says(in = "Terms 1", words = "5 the 9th not or ( that are open around one another.")
    static void t1_fault5() {
        dueRule("turn if " + times(8, "(") + "top" + times(8, ")") + ";", 1);
        dueRuleFault("turn if " + times(9, "(") + "top" + times(9, ")") + ";", 5, 16);
        dueRule("turn if " + times(8, "not ") + "top;", 1);
        dueRuleFault("turn if " + times(9, "not ") + "top;", 5, 40);
        dueRule("turn if " + times(4, "not(") + "top" + times(4, ")") + ";", 1);
        dueRuleFault("turn if " + times(4, "not(") + "not top" + times(4, ")") + ";", 5, 24);
        dueRuleFault("turn if " + times(4, "not(") + "(top)" + times(4, ")") + ";", 5, 24);
        // Those that are shut again, and those of earlier facts and steps, are open no more.
        String deep = times(8, "(") + "top" + times(8, ")");
        dueRule("turn if " + deep + " or " + deep + " and " + deep + ";turn if " + deep + ";", 2);
        dueRule("turn if not not not not top and " + times(8, "not ") + "top or " + deep + ";", 1);
        dueRule("turn if " + times(7, "(") + "(top) or (top) and not top" + times(7, ")") + ";", 1);
        dueRuleFault("turn if " + times(7, "(") + "(top) or ((top))" + times(7, ")") + ";", 5, 25);
        dueRuleFault("turn if " + times(8, "(") + "top and not top" + times(8, ")") + ";", 5, 24);
    }
}
