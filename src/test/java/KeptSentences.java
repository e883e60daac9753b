/** Promises 33 to 37: tray, write, image, restore, count. */
final class KeptSentences extends Sentences {
    private KeptSentences() {
    }

    // ---- 33

    @Says(in = "Promise 33", words = "A TRAY is a row of so many 0s.")
    static void p33_tray() {
        for (int tray = 0; tray < 4; tray++) {
            int t = tray;
            GreatWheel x = new GreatWheel();
            for (int sort = 0; sort < 4; sort++) {
                for (int many : new int[] {0, 1, 39, 40}) {
                    x.tray(t, sort, many);
                    due("so many turns", x.perform(t), many);
                    dueThrow("no place more", IOOBE, () -> x.write(t, many, 0));
                    if (many > 0) {
                        due("a number", x.write(t, many - 1, 5), 5);
                        due("a number", x.write(t, 0, 5), 5);
                        due("it can't be", x.perform(t), 0);
                    }
                }
            }
            x.tray(t, 3, 40);
            due("all are 0 again", x.perform(t), 40);
            x.write(t, 9, 5);
            x.tray(t, 3, 5);
            x.tray(t, 3, 20);
            due("those beyond a shorter row too", x.perform(t), 20);
        }
    }

    @Says(in = "Promise 33", words = "NoSuchElementException: no such TRAY;")
    static void p33_noSuchTray() {
        GreatWheel x = new GreatWheel();
        for (int tray : new int[] {-1, 4, 5, LEAST, GREATEST}) {
            dueThrow("tray(" + tray + ", 0, 0)", NSEE, () -> x.tray(tray, 0, 0));
        }
    }

    @Says(in = "Promise 33", words = "IllegalArgumentException: no such sort, or not so many.")
    static void p33_throws() {
        GreatWheel x = new GreatWheel();
        for (int sort : new int[] {-1, 4, 5, LEAST, GREATEST}) {
            dueThrow("tray(0, " + sort + ", 0)", IAE, () -> x.tray(0, sort, 0));
        }
        for (int many : new int[] {-1, 41, 42, LEAST, GREATEST}) {
            dueThrow("tray(0, 0, " + many + ")", IAE, () -> x.tray(0, 0, many));
        }
        dueThrow("it is missing still", ISE, () -> x.perform(0));
        x.tray(0, 0, 3);
        x.write(0, 1, 7);
        dueThrow("tray(0, 3, 41)", IAE, () -> x.tray(0, 3, 41));
        dueThrow("tray(0, 4, 2)", IAE, () -> x.tray(0, 4, 2));
        due("it is as it was: many", x.judge(0, 0), 1);
        due("it is as it was: sort", x.write(0, 2, 256), 0);
    }

    // ---- 34

    @Says(in = "Promise 34", words = "A number comes to a place of a TRAY, cut to its sort: as it is there.")
    static void p34_write() {
        long[] values = {0, 1, -1, 127, 128, 200, 255, 256, -128, -129, -256, 32767, 32768, 65535, 65536, -32768, -32769,
            2147483647L, 2147483648L, 4294967295L, 4294967296L, -2147483648L, -2147483649L, Long.MAX_VALUE,
            Long.MIN_VALUE};
        GreatWheel x = new GreatWheel();
        for (int sort = 0; sort < 4; sort++) {
            x.tray(sort, sort, 40);
        }
        for (long v : values) {
            due("8 bits of " + v, x.write(0, 0, v), (byte) v);
            due("16 bits of " + v, x.write(1, 39, v), (short) v);
            due("32 bits of " + v, x.write(2, 20, v), (int) v);
            due("64 bits of " + v, x.write(3, 1, v), v);
        }
        for (int tray = 0; tray < 4; tray++) {
            x.tray(tray, tray, 5);
        }
        // What is there is what an act is read from: 256 is a turn in 8 bits, 266 the load of visit 0.
        due("256 in 8 bits", x.write(0, 2, 256), 0);
        due("a turn", x.judge(0, 0), -1);
        due("266 in 8 bits", x.write(0, 2, 266), 10);
        due("a load of none, at its place", x.judge(0, 0), 2);
        due("256 in 16 bits", x.write(1, 3, 256), 256);
        due("no act, at its place", x.judge(1, 0), 3);
        due("65536 in 16 bits", x.write(1, 3, 65536), 0);
        due("a turn", x.judge(1, 0), -1);
        due("the other trays have none of it", x.judge(2, 0), -1);
        due("1 << 32 in 32 bits", x.write(2, 4, 1L << 32), 0);
        due("a turn", x.judge(2, 0), -1);
        due("1 << 32 in 64 bits", x.write(3, 4, 1L << 32), 1L << 32);
        due("no act", x.judge(3, 0), 4);
        due("another number for it", x.write(3, 4, 0), 0);
        due("a turn", x.judge(3, 0), -1);
    }

    @Says(in = "Promise 34", words = "IllegalStateException: it is MISSING;")
    static void p34_missing() {
        GreatWheel x = new GreatWheel();
        for (int tray = 0; tray < 4; tray++) {
            int t = tray;
            dueThrow("write(" + t + ", 0, 0)", ISE, () -> x.write(t, 0, 0));
            dueThrow("write(" + t + ", -1, 0)", ISE, () -> x.write(t, -1, 0));
            x.tray(t, 0, 1);
            due("write(" + t + ", 0, 1)", x.write(t, 0, 1), 1);
        }
    }

    @Says(in = "Promise 34", words = "IndexOutOfBoundsException: it has no such place.")
    static void p34_noSuchPlace() {
        GreatWheel x = new GreatWheel();
        for (int many : new int[] {0, 1, 5, 39, 40}) {
            x.tray(1, 2, many);
            for (int place : new int[] {-1, many, 40, 41, LEAST, GREATEST}) {
                dueThrow("write(1, " + place + ", 7) of " + many, IOOBE, () -> x.write(1, place, 7));
            }
            due("none came anywhere", x.perform(1), many);
            if (many > 0) {
                due("the last place", x.write(1, many - 1, 7), 7);
            }
        }
    }

    // ---- 35

    @Says(in = "Promise 35", words = "An IMAGE is made.")
    static void p35_image() {
        GreatWheel x = wheelOf("cars 4;bears 999;party 50;", "turn;");
        for (int i = 0; i < 3; i++) {
            x.rest(10);
            x.image(i);
        }
        for (int i = 0; i < 3; i++) {
            x.restore(i);
            due("image " + i, x.count(9), 10 * (i + 1));
        }
        x.restore(1);
        x.image(1);
        seat(x, 0);
        x.bag(3, 3);
        rule(x, "hurry;hurry;");
        x.image(1);
        x.restore(2);
        due("another image", x.count(9), 30);
        x.restore(1);
        due("made anew: the minute", x.count(9), 21);
        due("made anew: guests", x.count(10), 1);
        due("made anew: sandbags", x.car(3, 4), 3);
        due("made anew: the rule", x.count(11), 2);
        Twins.dueUnchanged("image", y -> y.image(2), y -> y.image(2));
        // To make one changes nothing but itself: image 2 is made for both at last.
        Twins.dueUnchanged("image", y -> {
            y.image(2);
            y.bag(0, 1);
            y.image(2);
        }, y -> y.image(2));
    }

    @Says(in = "Promise 35", words = "NoSuchElementException: no such one.")
    static void p35_noSuchImage() {
        GreatWheel x = new GreatWheel();
        for (int i : new int[] {-1, 3, 4, LEAST, GREATEST}) {
            dueThrow("image(" + i + ")", NSEE, () -> x.image(i));
        }
        for (int i = 0; i < 3; i++) {
            int image = i;
            dueThrow("none was made by that", ISE, () -> x.restore(image));
        }
    }

    // ---- 36

    private static int[] seen(GreatWheel x) {
        int visits = x.count(7);
        int cars = x.count(1);
        int steps = x.count(11);
        int parties = x.count(6);
        int[] all = new int[12 + 5 * visits + 8 * cars + steps + 5 * parties + 1];
        int at = 0;
        for (int what = 0; what < 12; what++) {
            all[at++] = x.count(what);
        }
        for (int v = 0; v < visits; v++) {
            for (int what = 0; what < 5; what++) {
                all[at++] = x.visit(v, what);
            }
        }
        for (int car = 0; car < cars; car++) {
            for (int what = 0; what < 6; what++) {
                all[at++] = x.car(car, what);
            }
            all[at++] = x.lean(car);
            all[at++] = x.worst(car);
        }
        for (int step = 0; step < steps; step++) {
            all[at++] = x.so(step) ? 1 : 0;
        }
        for (int party = 0; party < parties; party++) {
            for (int what = 0; what < 5; what++) {
                all[at++] = x.party(party, what);
            }
        }
        all[at] = x.top() ? 1 : 0;
        return all;
    }

    private static void dueSame(String name, int[] got, int[] want) {
        due(name + ": how many", got.length, want.length);
        for (int i = 0; i < Math.min(got.length, want.length); i++) {
            due(name + ": answer " + i, got[i], want[i]);
        }
    }

    @Says(in = "Promise 36", words = "All is as in an IMAGE.")
    static void p36_restore() {
        GreatWheel x = wheelOf("cars 4;seats 3;bears 999;party 50 off 3;party 60 rides 2 fear;",
                "turn if late 5;load if room 1;turn if waits 2;turn if waits 3;turn if full 2;turn if full 3;turn if long 1;");
        seat(x, 0, 1);
        x.bag(2, 3);
        turn(x, 2);
        come(x, 0, 1);
        int[] first = seen(x);
        x.image(2);
        turn(x, 2);
        x.empty();
        x.load(2);
        x.bag(2, 0);
        rule(x, "hurry;");
        int[] second = seen(x);
        x.image(0);
        wheel(x, "cars 12;seats 6;bears 999;party 9;party 8 off 50 rides 5 fear;");
        x.rule(0);
        x.rest(77);
        for (int n = 0; n < 9; n++) {
            come(x, 1);
            x.bag(n, 9 - n);
            x.load(n);
            turn(x, n % 3);
        }
        x.restore(2);
        dueSame("the first", seen(x), first);
        x.restore(0);
        dueSame("the second", seen(x), second);
        x.restore(2);
        dueSame("the first again", seen(x), first);
        x.rest(10);
        turn(x, 1);
        x.load(3);
        x.bag(1, 1);
        come(x, 1);
        rule(x, "empty;");
        x.restore(2);
        dueSame("what comes later doesn't reach an image", seen(x), first);
        due("it goes on from there: by its rule", x.go(), 0);
        due("it goes on from there: the foot", x.count(8), 3);
        due("it goes on from there: a visit", x.come(1), 4);
    }

    @Says(in = "Promise 36", words = "All is as in an IMAGE.")
    static void p36_notTapeFaultTrays() {
        GreatWheel x = new GreatWheel();
        x.image(1);
        put(x, 0, 0, 0, 7);
        wheel(x, "cars ?");
        feed(x, "cars 4;");
        x.restore(1);
        due("the tape stays", x.count(12), 20);
        due("the fault stays", x.fault(0), 1);
        due("its place stays", x.fault(1), 5);
        due("the tray stays", x.judge(0, 0), 2);
        due("the tape's bytes stay", x.wheel(7), 1);
        due("they are the wheel then", x.count(1), 4);
        x.restore(1);
        due("images stay over a new wheel", x.count(1), 8);
    }

    @Says(in = "Promise 36", words = "NoSuchElementException: no such one;")
    static void p36_noSuchImage() {
        GreatWheel x = new GreatWheel();
        for (int i = 0; i < 3; i++) {
            x.image(i);
        }
        for (int i : new int[] {-1, 3, 4, LEAST, GREATEST}) {
            dueThrow("restore(" + i + ")", NSEE, () -> x.restore(i));
        }
    }

    @Says(in = "Promise 36", words = "IllegalStateException: none was made.")
    static void p36_noneWasMade() {
        for (int made = 0; made < 3; made++) {
            GreatWheel x = new GreatWheel();
            x.image(made);
            x.rest(5);
            for (int i = 0; i < 3; i++) {
                int image = i;
                if (i != made) {
                    dueThrow("restore(" + i + ")", ISE, () -> x.restore(image));
                    due("the minute stays", x.count(9), 5);
                }
            }
            x.restore(made);
            due("the one that was made", x.count(9), 0);
        }
    }

    // ---- 37

    @Says(in = "Promise 37", words = "0 LINES, 1 CARS, 2 seats, 3 bears, 4 minutes, 5 bag, 6 PARTIES, 7 VISITS, 8 the CAR"
        + " at the FOOT, 9 the MINUTE, 10 guests that sit, 11 STEPS, 12 bytes on the tape;")
    static void p37_count() {
        GreatWheel x = wheelOf("cars 6;seats 5;bears 321;minutes 7;bag 42;party 1 2;party 2 3 4;cars 12;",
                "load;turn;empty;again 2 turn;");
        seat(x, 1);
        come(x, 0);
        turn(x, 11);
        seat(x, 0);
        feed(x, times(22, " "));
        int[] want = {8, 12, 5, 321, 7, 42, 2, 3, 11, 79, 5, 4, 40};
        for (int what = 0; what < want.length; what++) {
            due("count(" + what + ")", x.count(what), want[what]);
        }
        turn(x, 1);
        due("one leaves", x.empty(), 1);
        due("visits", x.count(7), 3);
        due("guests that sit", x.count(10), 2);
        due("the foot", x.count(8), 0);
    }

    @Says(in = "Promise 37", words = "NONE for others.")
    static void p37_others() {
        GreatWheel x = new GreatWheel();
        for (int what : new int[] {-1, -2, 13, 14, 100, LEAST, GREATEST}) {
            due("count(" + what + ")", x.count(what), -1);
        }
    }
}
