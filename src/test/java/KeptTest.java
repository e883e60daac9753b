import java.util.NoSuchElementException;

/** Promises 33 to 37: tray, write, image, restore, count. */
public final class KeptTest {
    private static final Class<?> IAE = IllegalArgumentException.class;
    private static final Class<?> ISE = IllegalStateException.class;
    private static final Class<?> NSEE = NoSuchElementException.class;
    private static final Class<?> IOOBE = IndexOutOfBoundsException.class;

    public static void main(String[] args) {
        tray();
        write();
        cut();
        image();
        imageKeepsOut();
        restoreThrows();
        count();
        Checks.end();
    }

    private static void tray() {
        GreatWheel x = new GreatWheel();
        Checks.dueThrow("33: tray", NSEE, () -> x.tray(4, 0, 0));
        Checks.dueThrow("33: tray first", NSEE, () -> x.tray(-1, 4, 41));
        Checks.dueThrow("33: sort", IAE, () -> x.tray(0, 4, 0));
        Checks.dueThrow("33: sort", IAE, () -> x.tray(0, -1, 0));
        Checks.dueThrow("33: many", IAE, () -> x.tray(0, 0, 41));
        Checks.dueThrow("33: many", IAE, () -> x.tray(0, 0, -1));
        Checks.dueThrow("33: still missing", ISE, () -> x.perform(0));
        x.tray(0, 0, 0);
        Checks.due("33: no number", x.perform(0), 0);
        Checks.dueThrow("33: no place", IOOBE, () -> x.write(0, 0, 1));
        x.tray(0, 3, 40);
        x.write(0, 39, 77);
        x.write(0, 0, 77);
        Checks.due("33: 77 can't be", x.perform(0), 0);
        x.tray(0, 3, 40);
        Checks.due("33: all are 0 again", x.perform(0), 40);
        x.write(0, 1, 9);
        Checks.dueThrow("33: many", IAE, () -> x.tray(0, 0, 41));
        Checks.due("33: a throw changes nothing", x.perform(0), 1);
        Checks.dueThrow("33: the others are missing", ISE, () -> x.perform(1));
    }

    private static void write() {
        GreatWheel x = new GreatWheel();
        Checks.dueThrow("34: tray", NSEE, () -> x.write(4, 0, 0));
        Checks.dueThrow("34: tray first", NSEE, () -> x.write(-1, -1, 0));
        Checks.dueThrow("34: missing", ISE, () -> x.write(0, 0, 0));
        Checks.dueThrow("34: missing ahead of place", ISE, () -> x.write(0, -1, 0));
        for (int tray = 0; tray < 4; tray++) {
            x.tray(tray, 2, 5);
        }
        Checks.dueThrow("34: place", IOOBE, () -> x.write(0, 5, 0));
        Checks.dueThrow("34: place", IOOBE, () -> x.write(3, -1, 0));
        Checks.dueThrow("34: place", IOOBE, () -> x.write(3, Integer.MAX_VALUE, 0));
        Checks.due("34: as it is there", x.write(1, 4, 5), 5);
        Checks.due("34: in its tray alone", x.judge(0, 0), -1);
        Checks.due("34: at its place", x.judge(1, 0), 4);
        Checks.due("34: in its tray alone", x.judge(2, 0), -1);
    }

    private static void cut() {
        long[] values = {0, 1, -1, 127, 128, 200, 255, 256, -128, -129, 32767, 32768, 65535, 65536, -32769,
            2147483647L, 2147483648L, 4294967295L, 4294967296L, -2147483649L, Long.MAX_VALUE, Long.MIN_VALUE};
        GreatWheel x = new GreatWheel();
        for (int sort = 0; sort < 4; sort++) {
            x.tray(sort, sort, 1);
        }
        for (long v : values) {
            Checks.due("34: 8 bits of " + v, x.write(0, 0, v), (byte) v);
            Checks.due("34: 16 bits of " + v, x.write(1, 0, v), (short) v);
            Checks.due("34: 32 bits of " + v, x.write(2, 0, v), (int) v);
            Checks.due("34: 64 bits of " + v, x.write(3, 0, v), v);
        }
        x.write(0, 0, 256);
        Checks.due("34: cut to a turn", x.judge(0, 0), -1);
        x.write(1, 0, 256);
        Checks.due("34: not cut", x.judge(1, 0), 0);
    }

    private static int[] seen(GreatWheel x) {
        int visits = x.count(7);
        int cars = x.count(1);
        int[] all = new int[12 + 5 * visits + 6 * cars + 2 * cars + x.count(11)];
        int at = 0;
        for (int what = 0; what < 12; what++) {
            all[at++] = x.count(what);
        }
        for (int v = 0; v < visits; v++) {
            for (int what = 0; what < 5; what++) {
                all[at++] = x.visit(v, what);
            }
        }
        for (int car = 0; car < cars; car++) {
            for (int what = 0; what < 6; what++) {
                all[at++] = x.car(car, what);
            }
            all[at++] = x.lean(car);
            all[at++] = x.worst(car);
        }
        for (int step = 0; step < x.count(11); step++) {
            all[at++] = x.so(step) ? 1 : 0;
        }
        return all;
    }

    private static void dueSame(String name, int[] got, int[] want) {
        Checks.due(name + ", how many", got.length, want.length);
        for (int i = 0; i < Math.min(got.length, want.length); i++) {
            Checks.due(name + " at " + i, got[i], want[i]);
        }
    }

    private static void image() {
        GreatWheel x = Checks.wheelOf("cars 4;bears 999;party 50 off 3;party 60 rides 2 fear;");
        Checks.rule(x, "turn if late 5;load if room 1;");
        x.load(x.come(0));
        x.load(x.come(1));
        x.bag(2, 3);
        x.turn();
        x.come(0);
        int[] first = seen(x);
        x.image(2);
        dueSame("35: making one changes nothing", seen(x), first);
        x.turn();
        x.turn();
        x.turn();
        x.empty();
        x.bag(2, 0);
        x.load(2);
        Checks.rule(x, "hurry;");
        int[] second = seen(x);
        x.image(0);
        Checks.wheel(x, "cars 12;party 9;");
        x.rule(0);
        x.restore(2);
        dueSame("36: first", seen(x), first);
        x.restore(0);
        dueSame("36: second", seen(x), second);
        x.restore(2);
        dueSame("36: an image stays", seen(x), first);
        x.rest(10);
        x.come(1);
        x.load(2);
        x.restore(2);
        dueSame("36: what comes later doesn't reach it", seen(x), first);
        Checks.due("36: the rule too", x.go(), 1);
        x.image(2);
        x.rest(1);
        x.restore(2);
        Checks.due("35: made anew", x.visit(2, 2), 1);
        Checks.due("36: guests", x.party(1, 4), 1);
        Checks.due("36: weight", x.weight(1, 0), 60);
        Checks.due("36: top goes with it", x.turn(), 0);
        Checks.due("36: top goes with it", x.top(), true);
    }

    /** The tape, the fault and the trays are in no image. */
    private static void imageKeepsOut() {
        GreatWheel x = new GreatWheel();
        x.image(1);
        x.tray(0, 1, 3);
        x.write(0, 2, 7);
        Checks.wheel(x, "cars ?");
        Checks.feed(x, "cars 4;");
        x.restore(1);
        Checks.due("36: the tape stays", x.count(12), 20);
        Checks.due("36: the fault stays", x.fault(0), 1);
        Checks.due("36: its place stays", x.fault(1), 5);
        Checks.due("36: the tray stays", x.judge(0, 0), 2);
        Checks.due("36: the tape's bytes stay", x.wheel(7), 1);
        Checks.due("36: the tape's bytes stay", x.count(1), 4);
    }

    private static void restoreThrows() {
        GreatWheel x = new GreatWheel();
        x.rest(5);
        Checks.dueThrow("35: image", NSEE, () -> x.image(3));
        Checks.dueThrow("35: image", NSEE, () -> x.image(-1));
        Checks.dueThrow("36: image", NSEE, () -> x.restore(3));
        Checks.dueThrow("36: image", NSEE, () -> x.restore(-1));
        Checks.dueThrow("36: none was made", ISE, () -> x.restore(0));
        x.image(0);
        Checks.dueThrow("36: none was made", ISE, () -> x.restore(1));
        x.rest(5);
        x.restore(0);
        Checks.due("36: minute", x.count(9), 5);
    }

    private static void count() {
        GreatWheel x = Checks.wheelOf("cars 6;seats 5;bears 321;minutes 7;bag 42;party 1 2;party 2 3 4;cars 12;");
        Checks.rule(x, "load;turn;empty;");
        x.load(x.come(1));
        x.come(0);
        x.turn();
        Checks.feed(x, "                      ");
        int[] want = {8, 12, 5, 321, 7, 42, 2, 2, 1, 8, 3, 3, 40};
        for (int what = 0; what < want.length; what++) {
            Checks.due("37: count(" + what + ")", x.count(what), want[what]);
        }
        for (int what : new int[] {-1, 13, 100, Integer.MIN_VALUE, Integer.MAX_VALUE}) {
            Checks.due("37: others", x.count(what), -1);
        }
    }
}
