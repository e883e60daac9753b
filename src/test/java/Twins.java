import java.util.ArrayList;
import java.util.List;
import java.util.NoSuchElementException;

/** Two objects are led to the same state; one makes a call that may change nothing, then both must answer alike. */
final class Twins {
    private static final long THREW = 1L << 40;

    private Twins() {
    }

    interface Act {
        void on(GreatWheel x);
    }

    private interface Asked {
        long answer();
    }

    static void dueUnchanged(String call, Act act) {
        GreatWheel x = rich();
        act.on(x);
        dueAlike(call, x);
    }

    static void dueThrowUnchanged(String call, Class<?> want, Act act) {
        GreatWheel x = rich();
        Checks.dueThrow(call, want, () -> act.on(x));
        dueAlike(call, x);
    }

    /** The same for a state that the test makes itself. */
    static void dueUnchanged(String call, Act lead, Act act) {
        GreatWheel x = rich();
        GreatWheel y = rich();
        lead.on(x);
        lead.on(y);
        act.on(x);
        dueAlike(call, x, y);
    }

    private static void dueAlike(String call, GreatWheel x) {
        dueAlike(call, x, rich());
    }

    private static void dueAlike(String call, GreatWheel x, GreatWheel y) {
        List<Long> got = seen(x);
        List<Long> want = seen(y);
        Checks.due(call + ": answers behind it", got.size(), want.size());
        for (int i = 0; i < Math.min(got.size(), want.size()); i++) {
            Checks.due(call + " changes nothing: answer " + i + " behind it", got.get(i), want.get(i));
        }
    }

    /** Somebody sits, waits, is gone; bags, images 0 and 1, trays 0, 1 and 3, a fault, bytes on the tape. */
    static GreatWheel rich() {
        GreatWheel x = new GreatWheel();
        Sentences.wheel(x, "cars 4;party 9;");
        Sentences.rule(x, "hurry;");
        x.come(0);
        x.image(1);
        Sentences.wheel(x, "cars 6;seats 3;bears 250;minutes 3;bag 15;party 50 60 off 5 rides 2;party 40;party 30 fear;");
        Sentences.rule(x, "empty;load if waits 2 and not top;again 2 turn if late 5;");
        for (int n = 0; n < 7; n++) {
            x.come(n % 3);
        }
        x.load(0);
        x.load(1);
        x.rest(11);
        x.turn();
        x.load(2);
        x.image(0);
        x.bag(4, 2);
        for (int n = 0; n < 5; n++) {
            x.turn();
        }
        x.empty();
        x.turn();
        x.load(3);
        x.bag(1, 1);
        x.tray(0, 0, 3);
        x.write(0, 1, 14);
        x.tray(1, 3, 4);
        x.write(1, 2, 1L << 33);
        x.tray(3, 1, 0);
        Sentences.rule(x, "turn;?");
        Sentences.feed(x, "cars 12;bag 5;party 7 8 9;");
        return x;
    }

    private static void ask(List<Long> all, Asked asked) {
        long answer;
        try {
            answer = asked.answer();
        } catch (NoSuchElementException e) {
            answer = THREW;
        } catch (IllegalStateException e) {
            answer = THREW + 1;
        } catch (IndexOutOfBoundsException e) {
            answer = THREW + 2;
        } catch (IllegalArgumentException e) {
            answer = THREW + 3;
        }
        all.add(answer);
    }

    /** Uses the object up. */
    private static List<Long> seen(GreatWheel x) {
        List<Long> all = new ArrayList<>();
        stand(x, all);
        sought(x, all);
        for (int tray = 0; tray < 4; tray++) {
            int t = tray;
            for (int what = 0; what < 4; what++) {
                int w = what;
                ask(all, () -> x.judge(t, w));
            }
            ask(all, () -> x.perform(t));
            ask(all, () -> x.write(t, 0, 300));
            ask(all, () -> x.write(t, 3, 70000));
        }
        ask(all, () -> x.go());
        ask(all, () -> x.go());
        stand(x, all);
        ask(all, () -> x.wheel(26));
        stand(x, all);
        for (int i = 0; i < 3; i++) {
            int image = i;
            ask(all, () -> {
                x.restore(image);
                return 0;
            });
            stand(x, all);
            ask(all, () -> x.go());
        }
        return all;
    }

    private static void stand(GreatWheel x, List<Long> all) {
        for (int what = 0; what < 13; what++) {
            all.add((long) x.count(what));
        }
        all.add((long) x.fault(0));
        all.add((long) x.fault(1));
        for (int party = 0; party < x.count(6); party++) {
            all.add((long) x.party(party, 1));
            all.add((long) x.party(party, 3));
        }
        for (int v = 0; v < x.count(7); v++) {
            for (int what = 0; what < 5; what++) {
                all.add((long) x.visit(v, what));
            }
        }
        for (int car = 0; car < x.count(1); car++) {
            for (int what = 0; what < 6; what++) {
                all.add((long) x.car(car, what));
            }
            all.add((long) x.lean(car));
            all.add((long) x.worst(car));
        }
        for (int k = 0; k < 4; k++) {
            all.add((long) x.waits(k));
        }
        all.add((long) x.sure());
        all.add(x.top() ? 1L : 0L);
        for (int step = 0; step < x.count(11); step++) {
            all.add(x.so(step) ? 1L : 0L);
        }
    }

    private static void sought(GreatWheel x, List<Long> all) {
        for (int what = -1; what < 4; what++) {
            int w = what;
            ask(all, () -> x.empties(w));
            ask(all, () -> x.fills(3, w));
            ask(all, () -> x.bags(w));
            ask(all, () -> x.ballast(50, w));
            ask(all, () -> x.day(3, 60, 40, w));
            ask(all, () -> x.days(3, 60, 40, w));
            ask(all, () -> x.alike(w));
        }
    }
}
