import java.util.NoSuchElementException;

/** Promises 24 to 28: empties, fills, bags, ballast, alike. */
public final class SoughtTest {
    private static final Class<?> IAE = IllegalArgumentException.class;
    private static final Class<?> ISE = IllegalStateException.class;
    private static final Class<?> NSEE = NoSuchElementException.class;

    public static void main(String[] args) {
        emptiesPlainly();
        emptiesByFear();
        emptiesByLean();
        emptiesFullWheel();
        fillsPlainly();
        fillsSix();
        fillsByLean();
        fillsByFear();
        fillsOrder();
        bags();
        ballast();
        alike();
        Checks.end();
    }

    private static void dueEmptied(GreatWheel x, int turns, int... cars) {
        Checks.due("24: turns", x.empties(-1), turns);
        for (int i = 0; i < cars.length; i++) {
            Checks.due("24: car " + i, x.empties(i), cars[i]);
        }
        Checks.due("24: not so many", x.empties(cars.length), -1);
    }

    private static void emptiesPlainly() {
        GreatWheel x = Checks.wheelOf("cars 4;bears 999;party 50 rides 9;");
        dueEmptied(x, 0);
        x.bag(2, 3);
        dueEmptied(x, 0);
        x.come(0);
        dueEmptied(x, 0);
        x.load(0);
        dueEmptied(x, 0, 0);
        x.turn();
        dueEmptied(x, 3, 0);
        x.load(x.come(0));
        dueEmptied(x, 3, 1, 0);
        x.turn();
        dueEmptied(x, 3, 0, 1);
        Checks.due("24: nothing stays", x.count(10), 2);
        Checks.due("24: nothing stays", x.count(8), 2);
        Checks.due("24: great", x.empties(Integer.MAX_VALUE), -1);
        Checks.dueThrow("24: what", IAE, () -> x.empties(-2));
        Checks.dueThrow("24: what", IAE, () -> x.empties(Integer.MIN_VALUE));
    }

    /** One of fear at the top keeps the foot shut: its own car has to come first. */
    private static void emptiesByFear() {
        GreatWheel x = Checks.wheelOf("cars 4;bears 999;party 10 fear;party 10;");
        x.load(x.come(0));
        x.turn();
        x.turn();
        x.turn();
        x.turn();
        x.turn();
        x.turn();
        dueEmptied(x, 2, 0);
        x.turn();
        x.turn();
        x.turn();
        x.turn();
        dueEmptied(x, 2, 0);
        GreatWheel z = Checks.wheelOf("cars 4;bears 999;party 10 fear;party 10;");
        z.turn();
        z.turn();
        z.load(z.come(1));
        z.turn();
        z.turn();
        z.load(z.come(0));
        dueEmptied(z, 2, 0, 2);
        z.turn();
        dueEmptied(z, 5, 0, 2);
        z.turn();
        dueEmptied(z, 4, 0, 2);
        // Behind one of fear, who is no longer there, the foot is open.
        GreatWheel y = Checks.wheelOf("cars 4;bears 999;party 10 fear;party 10;");
        y.come(0);
        y.come(1);
        y.come(0);
        y.load(0);
        y.turn();
        y.load(1);
        y.turn();
        Checks.due("24: shut by fear", y.load(2), 4);
        dueEmptied(y, 3, 0, 1);
    }

    /** Who gets out first decides whether it can go on turning. */
    private static void emptiesByLean() {
        GreatWheel x = Checks.wheelOf("cars 4;seats 6;bears 50;bag 10;party 60;party 60;party 10;");
        x.load(x.come(0));
        x.bag(2, 6);
        x.turn();
        x.turn();
        x.bag(2, 0);
        x.load(x.come(1));
        // 60 in car 0 and 60 in car 2: letting one out makes the other lean too far on the next turn.
        dueEmptied(x, -1);
        x.bag(0, 1);
        // Without the guests of car 0 its bag holds against car 2, but not the other way about.
        dueEmptied(x, 4, 0, 2);
        x.bag(0, 0);
        x.bag(2, 1);
        // Without the guests of car 2 its bag still holds against car 0.
        dueEmptied(x, 2, 2, 0);
        x.bag(2, 0);
        x.bag(0, 9);
        x.bag(2, 9);
        dueEmptied(x, -1);
    }

    private static void emptiesFullWheel() {
        GreatWheel x = Checks.wheelOf("cars 12;seats 1;bears 999;party 10;");
        for (int car = 0; car < 12; car++) {
            x.load(x.come(0));
            x.turn();
        }
        dueEmptied(x, 11, 0, 1, 2, 3, 4, 5, 6, 7, 8, 9, 10, 11);
        for (int n = 0; n < 5; n++) {
            x.turn();
        }
        dueEmptied(x, 11, 5, 6, 7, 8, 9, 10, 11, 0, 1, 2, 3, 4);
    }

    private static void dueFilled(GreatWheel x, int t, int guests, int turns, int... stops) {
        Checks.due("25: guests", x.fills(t, -1), guests);
        Checks.due("25: turns", x.fills(t, -2), turns);
        for (int i = 0; i < 6; i++) {
            Checks.due("25: stop of " + i, x.fills(t, i), i < stops.length ? stops[i] : -1);
        }
    }

    private static void fillsPlainly() {
        GreatWheel x = Checks.wheelOf("cars 4;seats 2;bears 999;party 10;party 10 10;");
        dueFilled(x, 7, 0, 0);
        x.come(0);
        x.come(1);
        x.come(0);
        dueFilled(x, 0, 2, 0, 0, -1, 0);
        dueFilled(x, 1, 4, 1, 0, 1, 0);
        dueFilled(x, 7, 4, 1, 0, 1, 0);
        x.load(1);
        dueFilled(x, 0, 0, 0);
        dueFilled(x, 1, 2, 1, 1, 1);
        Checks.due("25: nothing stays", x.count(10), 2);
        Checks.due("25: nothing stays", x.count(8), 0);
        Checks.due("25: nothing stays", x.waits(0), 0);
        Checks.dueThrow("25: t", IAE, () -> x.fills(8, -1));
        Checks.dueThrow("25: t", IAE, () -> x.fills(-1, -1));
        Checks.dueThrow("25: what", IAE, () -> x.fills(0, -3));
        Checks.dueThrow("25: what", IAE, () -> x.fills(0, 6));
        Checks.dueThrow("25: both", IAE, () -> x.fills(8, 6));
    }

    /** Of more than six the first six alone. */
    private static void fillsSix() {
        GreatWheel x = Checks.wheelOf("cars 12;seats 1;bears 999;party 10;");
        for (int n = 0; n < 9; n++) {
            x.come(0);
        }
        dueFilled(x, 7, 6, 5, 0, 1, 2, 3, 4, 5);
        dueFilled(x, 3, 4, 3, 0, 1, 2, 3);
        x.load(2);
        dueFilled(x, 7, 6, 6, 1, 2, 3, 4, 5, 6);
        // More guests are better than earlier ones.
        GreatWheel y = Checks.wheelOf("cars 4;seats 3;bears 999;party 10;party 10 10;party 10 10 10;party 1 1 1 1;");
        y.come(3);
        y.come(0);
        y.come(2);
        y.come(1);
        dueFilled(y, 0, 3, 0, -1, 0, -1, 0);
        dueFilled(y, 1, 6, 1, -1, 0, 1, 0);
    }

    private static void fillsByLean() {
        GreatWheel x = Checks.wheelOf("cars 4;seats 4;bears 20;bag 10;party 10;party 25;party 20;");
        x.come(1);
        x.come(0);
        x.come(2);
        // 25 alone can't be turned on from, but may get in last; behind 10 and two turns 20 weighs against it.
        dueFilled(x, 0, 3, 0, 0, 0, 0);
        x.load(0);
        dueFilled(x, 7, 2, 0, 0, 0);
        GreatWheel y = Checks.wheelOf("cars 4;seats 1;bears 20;bag 10;party 25;party 20;party 15;");
        y.come(0);
        y.come(1);
        y.come(2);
        // In by 20, 15 and 25 in three cars beside one another; 25 ahead of others would lean too far.
        dueFilled(y, 7, 3, 2, 2, 0, 1);
        y.bag(2, 1);
        dueFilled(y, 1, 2, 1, 0, 1, -1);
    }

    private static void fillsByFear() {
        GreatWheel x = Checks.wheelOf("cars 4;seats 1;bears 999;party 10 fear;party 10;");
        x.come(0);
        x.come(1);
        x.come(1);
        x.come(1);
        // Behind two turns the first would stand at the top, if it got in at once.
        dueFilled(x, 2, 3, 2, 1, 0, 2);
        dueFilled(x, 3, 4, 3, 2, 0, 1, 3);
        x.load(0);
        dueFilled(x, 2, 1, 1, 1);
        dueFilled(x, 7, 2, 3, 1, 3);
    }

    /** Of like many guests and turns the first visit as early as can be, then the next one. */
    private static void fillsOrder() {
        GreatWheel x = Checks.wheelOf("cars 4;seats 2;bears 999;party 10;party 11;party 12 12;");
        x.come(2);
        x.come(0);
        x.come(1);
        dueFilled(x, 1, 4, 1, 0, 1, 1);
        GreatWheel y = Checks.wheelOf("cars 4;seats 2;bears 999;party 10;party 11;party 12 12;");
        y.come(0);
        y.come(2);
        y.come(1);
        dueFilled(y, 1, 4, 1, 0, 1, 0);
        GreatWheel z = Checks.wheelOf("cars 4;seats 1;bears 999;party 10;party 11;");
        z.come(0);
        z.come(1);
        z.come(1);
        dueFilled(z, 1, 2, 1, 0, 1, -1);
        // 90 may not be turned on from car 0 or 1; in car 2 it needs 50, not 10 or 20, in car 0 over against it.
        GreatWheel w = Checks.wheelOf("cars 4;seats 1;bears 50;party 90;party 10;party 50;party 20;");
        for (int p = 0; p < 4; p++) {
            w.come(p);
        }
        dueFilled(w, 3, 4, 3, 2, 1, 0, 3);
        dueFilled(w, 7, 4, 3, 2, 1, 0, 3);
        dueFilled(w, 2, 3, 2, 2, 0, 1, -1);
        dueFilled(w, 1, 2, 1, 1, 0, -1, -1);
        dueFilled(w, 0, 1, 0, 0, -1, -1, -1);
    }

    private static void dueBags(String name, GreatWheel x, int many, int... row) {
        Checks.due(name + " how many", x.bags(-1), many);
        for (int car = 0; car < x.count(1); car++) {
            Checks.due(name + " car " + car, x.bags(car), many < 0 ? -1 : car < row.length ? row[car] : 0);
        }
    }

    private static void bags() {
        GreatWheel x = Checks.wheelOf("cars 4;bears 50;bag 10;party 50;");
        dueBags("26: empty", x, 0);
        x.load(x.come(0));
        dueBags("26: just so", x, 0);
        x.bag(0, 1);
        dueBags("26: one", x, 1, 0, 0, 1);
        x.bag(0, 4);
        dueBags("26: four", x, 4, 0, 0, 4);
        x.bag(0, 5);
        dueBags("26: more than four", x, -1);
        x.bag(2, 9);
        dueBags("26: besides what there is", x, 0);
        x.bag(1, 7);
        dueBags("26: across", x, 2, 0, 0, 0, 2);
        Checks.due("26: nothing stays", x.car(3, 4), 0);
        Checks.dueThrow("26: car", IAE, () -> x.bags(4));
        Checks.dueThrow("26: car", IAE, () -> x.bags(-2));
        // More than nine may come to lie there.
        GreatWheel y = Checks.wheelOf("cars 4;bears 1;bag 1;party 12;");
        y.load(y.come(0));
        y.bag(2, 9);
        dueBags("26: above nine", y, 2, 0, 0, 2);
        // A bag in car 3, 4 or 5 would do: the first row has the most in the first cars.
        GreatWheel z = Checks.wheelOf("cars 8;bears 60;bag 20;party 70;");
        z.load(z.come(0));
        dueBags("26: first row", z, 1, 0, 0, 0, 1);
    }

    private static void ballast() {
        GreatWheel x = Checks.wheelOf("cars 4;bears 50;bag 10;party 30;");
        x.load(x.come(0));
        Checks.due("27: none", x.ballast(0, -1), 0);
        Checks.due("27: just so", x.ballast(20, -1), 0);
        Checks.due("27: one", x.ballast(21, -1), 1);
        Checks.due("27: where", x.ballast(21, 2), 1);
        Checks.due("27: where not", x.ballast(21, 0), 0);
        Checks.due("27: three", x.ballast(50, -1), 3);
        Checks.due("27: three", x.ballast(50, 2), 3);
        Checks.due("27: none helps", x.ballast(51, -1), -1);
        Checks.due("27: none helps", x.ballast(51, 2), -1);
        Checks.due("27: the most", x.ballast(1200, 0), -1);
        Checks.dueThrow("27: w", IAE, () -> x.ballast(1201, -1));
        Checks.dueThrow("27: w", IAE, () -> x.ballast(-1, -1));
        Checks.dueThrow("27: car", IAE, () -> x.ballast(0, 4));
        Checks.dueThrow("27: car", IAE, () -> x.ballast(0, -2));
        // Of six cars no lever is longer than 87.
        GreatWheel y = Checks.wheelOf("cars 6;bears 87;");
        Checks.due("27: six cars", y.ballast(100, -1), 0);
        Checks.due("27: six cars", y.ballast(101, -1), -1);
        GreatWheel z = Checks.wheelOf("cars 12;bears 999;");
        Checks.due("27: twelve cars", z.ballast(999, -1), 0);
        Checks.due("27: twelve cars", z.ballast(1000, -1), -1);
    }

    private static void alike() {
        GreatWheel x = Checks.wheelOf("cars 6;bears 999;bag 10;party 30;party 40;");
        Checks.dueThrow("28: none was made", ISE, () -> x.alike(0));
        Checks.dueThrow("28: image", NSEE, () -> x.alike(3));
        Checks.dueThrow("28: image", NSEE, () -> x.alike(-1));
        x.load(x.come(0));
        x.turn();
        x.load(x.come(1));
        x.image(0);
        Checks.due("28: the same", x.alike(0), 1);
        x.turn();
        Checks.due("28: the foot doesn't matter", x.alike(0), 1);
        Checks.wheel(x, "cars 6;bag 10;");
        Checks.due("28: empty", x.alike(0), 0);
        x.bag(4, 3);
        x.bag(5, 4);
        Checks.due("28: loads alone, turned", x.alike(0), 1);
        x.bag(5, 3);
        Checks.due("28: another load", x.alike(0), 0);
        x.bag(4, 4);
        Checks.due("28: two cars beside one another, mirrored", x.alike(0), 2);
        x.bag(5, 0);
        x.bag(0, 3);
        Checks.due("28: apart", x.alike(0), 0);
        x.bag(4, 0);
        x.bag(1, 1);
        x.bag(3, 2);
        x.image(1);
        Checks.due("28: another image", x.alike(1), 1);
        Checks.due("28: the first image", x.alike(0), 0);
        x.bag(0, 0);
        x.bag(1, 2);
        x.bag(3, 1);
        x.bag(4, 3);
        Checks.due("28: mirrored", x.alike(1), 2);
        Checks.wheel(x, "cars 8;");
        Checks.dueThrow("28: not as many cars", ISE, () -> x.alike(0));
        Checks.dueThrow("28: image first", NSEE, () -> x.alike(3));
    }
}
