import com.sun.management.ThreadMXBean;
import java.lang.management.ManagementFactory;

/** What a run of 512 calls makes stays far below the room that all calls of a run share. */
public final class RoomTest {
    private static final int CALLS = 512;
    /** The room holds 7.3 million fields and elements; less than a third of it, at four bytes each. */
    private static final long MOST_BYTES = 9_000_000;

    private static final ThreadMXBean THREADS = (ThreadMXBean) ManagementFactory.getThreadMXBean();

    public static void main(String[] args) {
        texts();
        fullWheel();
        Checks.end();
    }

    private static void dueSmall(String name, Checks.Call call) {
        call.run();
        long id = Thread.currentThread().getId();
        long before = THREADS.getThreadAllocatedBytes(id);
        for (int n = 0; n < CALLS; n++) {
            call.run();
        }
        long made = THREADS.getThreadAllocatedBytes(id) - before;
        Checks.due(name + " makes " + made + " bytes in " + CALLS + " calls", made < MOST_BYTES, true);
    }

    private static void texts() {
        GreatWheel x = new GreatWheel();
        dueSmall("a new object", () -> new GreatWheel().count(0));
        dueSmall("wheel", () -> Checks.wheel(x, "cars 12;seats 6;bears 999;party 1 2 3 4 5 6 off 5 rides 2 fear;"));
        StringBuilder b = new StringBuilder("load if late 1");
        for (int n = 0; n < 60; n++) {
            b.append(" and late 1");
        }
        b.append(";");
        int[] ints = Checks.packed(b.toString());
        dueSmall("rule", () -> {
            for (int i = 0; i < ints.length; i += 5) {
                x.feed(ints[i], ints[i + 1], ints[i + 2], ints[i + 3], ints[i + 4]);
            }
            Checks.due("rule", x.rule(b.length()), 1);
        });
    }

    private static void fullWheel() {
        GreatWheel x = Checks.wheelOf("cars 12;seats 1;bears 999;minutes 1;party 10;party 11;party 12;party 13;party 14;");
        Checks.rule(x, "empty;load if not top;turn;");
        for (int car = 0; car < 12; car++) {
            x.load(x.come(car % 5));
            x.turn();
        }
        for (int p = 0; p < 6; p++) {
            x.come(p % 5);
        }
        x.tray(0, 0, 40);
        dueSmall("image", () -> x.image(0));
        dueSmall("restore", () -> x.restore(0));
        dueSmall("alike", () -> x.alike(0));
        dueSmall("judge", () -> x.judge(0, 0));
        dueSmall("empties", () -> x.empties(-1));
        dueSmall("fills", () -> x.fills(7, -1));
        dueSmall("bags", () -> x.bags(-1));
        dueSmall("ballast", () -> x.ballast(500, -1));
        dueSmall("day", () -> x.day(1, 480, 50, 0));
        dueSmall("go", () -> x.go());
    }
}
