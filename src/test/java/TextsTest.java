import java.util.NoSuchElementException;

/** Promises 1 to 7. */
public final class TextsTest {
    private static final Class<?> IAE = IllegalArgumentException.class;
    private static final Class<?> NSEE = NoSuchElementException.class;

    public static void main(String[] args) {
        newObject();
        Checks.end();
    }

    private static void newObject() {
        GreatWheel x = new GreatWheel();
        int[] want = {0, 8, 2, 200, 2, 20, 0, 0, 0, 0, 0, 0, 0};
        for (int what = 0; what < want.length; what++) {
            Checks.due("1: count(" + what + ")", x.count(what), want[what]);
        }
    }
}
