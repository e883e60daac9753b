/** What holds for all calls that throw: which of several throws comes, and that nothing changes. */
final class ThrowsSentences extends Sentences {
    private ThrowsSentences() {
    }

    @Says(in = "Terms 3", words = "Of several throws of a call that one comes that is told first.")
    static void t3_theThrowThatIsToldFirst() {
        GreatWheel x = wheelOf("cars 4;party 5;");
        dueThrow("party: no such party, another what", NSEE, () -> x.party(1, 5));
        dueThrow("party: another what", IAE, () -> x.party(0, 5));
        dueThrow("weight: no such party, no such guest", NSEE, () -> x.weight(-1, 1));
        dueThrow("weight: no such guest", IAE, () -> x.weight(0, 1));
        dueThrow("visit: no such visit, another what", NSEE, () -> x.visit(0, 5));
        x.come(0);
        dueThrow("visit: another what", IAE, () -> x.visit(0, 5));
        dueThrow("car: no such car, another what", NSEE, () -> x.car(4, 6));
        dueThrow("car: another what", IAE, () -> x.car(3, 6));
        dueThrow("bag: no such car, n", NSEE, () -> x.bag(-1, 10));
        dueThrow("bag: n", IAE, () -> x.bag(0, 10));
        dueThrow("judge: no such tray, another what", NSEE, () -> x.judge(4, 4));
        dueThrow("judge: missing, another what", ISE, () -> x.judge(3, 4));
        dueThrow("write: no such tray, no such place", NSEE, () -> x.write(-1, 40, 0));
        dueThrow("write: missing, no such place", ISE, () -> x.write(0, 40, 0));
        dueThrow("tray: no such tray, sort, many", NSEE, () -> x.tray(4, 4, 41));
        dueThrow("tray: sort, many", IAE, () -> x.tray(3, 4, 41));
        x.tray(3, 0, 1);
        dueThrow("judge: another what", IAE, () -> x.judge(3, 4));
        dueThrow("write: no such place", IOOBE, () -> x.write(3, 1, 0));
        dueThrow("perform: no such tray", NSEE, () -> x.perform(4));
        dueThrow("perform: missing", ISE, () -> x.perform(0));
        dueThrow("alike: no such image", NSEE, () -> x.alike(3));
        dueThrow("alike: none was made", ISE, () -> x.alike(2));
        dueThrow("restore: no such image", NSEE, () -> x.restore(3));
        dueThrow("restore: none was made", ISE, () -> x.restore(2));
        dueThrow("fills: t, another what", IAE, () -> x.fills(8, 6));
        dueThrow("ballast: w, no such car", IAE, () -> x.ballast(1201, 4));
        dueThrow("day: all", IAE, () -> x.day(0, 0, 101, 6));
        dueThrow("days: all", IAE, () -> x.days(0, 0, 101, 3));
        dueThrow("come: no such party", NSEE, () -> x.come(1));
        for (int v = 1; v < 60; v++) {
            x.come(0);
        }
        dueThrow("come: no such party, there are 60", NSEE, () -> x.come(1));
        due("come: there are 60", x.come(0), -1);
    }

    @Says(in = "Terms 3", words = "A call that throws changes nothing.")
    static void t3_throwsOfTextsChangeNothing() {
        Twins.dueThrowUnchanged("wheel(-1)", IAE, x -> x.wheel(-1));
        Twins.dueThrowUnchanged("wheel(41)", IAE, x -> x.wheel(41));
        Twins.dueThrowUnchanged("wheel of the least", IAE, x -> x.wheel(LEAST));
        Twins.dueThrowUnchanged("wheel of the greatest", IAE, x -> x.wheel(GREATEST));
        Twins.dueThrowUnchanged("rule(-1)", IAE, x -> x.rule(-1));
        Twins.dueThrowUnchanged("rule(41)", IAE, x -> x.rule(41));
        Twins.dueThrowUnchanged("rule of the least", IAE, x -> x.rule(LEAST));
        Twins.dueThrowUnchanged("rule of the greatest", IAE, x -> x.rule(GREATEST));
        Twins.dueThrowUnchanged("party(3, 0)", NSEE, x -> x.party(3, 0));
        Twins.dueThrowUnchanged("party(0, 5)", IAE, x -> x.party(0, 5));
        Twins.dueThrowUnchanged("weight(-1, 0)", NSEE, x -> x.weight(-1, 0));
        Twins.dueThrowUnchanged("weight(0, 2)", IAE, x -> x.weight(0, 2));
    }

    @Says(in = "Terms 3", words = "A call that throws changes nothing.")
    static void t3_throwsOfWhoIsThereChangeNothing() {
        Twins.dueThrowUnchanged("come(3)", NSEE, x -> x.come(3));
        Twins.dueThrowUnchanged("come(-1)", NSEE, x -> x.come(-1));
        Twins.dueThrowUnchanged("visit(7, 0)", NSEE, x -> x.visit(7, 0));
        Twins.dueThrowUnchanged("visit(0, 5)", IAE, x -> x.visit(0, 5));
        Twins.dueThrowUnchanged("car(6, 0)", NSEE, x -> x.car(6, 0));
        Twins.dueThrowUnchanged("car(0, 6)", IAE, x -> x.car(0, 6));
        Twins.dueThrowUnchanged("bag(6, 1)", NSEE, x -> x.bag(6, 1));
        Twins.dueThrowUnchanged("bag(-1, 1)", NSEE, x -> x.bag(-1, 1));
        Twins.dueThrowUnchanged("bag(0, 10)", IAE, x -> x.bag(0, 10));
        Twins.dueThrowUnchanged("bag(0, -1)", IAE, x -> x.bag(0, -1));
        Twins.dueThrowUnchanged("lean(6)", NSEE, x -> x.lean(6));
        Twins.dueThrowUnchanged("worst(-1)", NSEE, x -> x.worst(-1));
    }

    @Says(in = "Terms 3", words = "A call that throws changes nothing.")
    static void t3_throwsOfActsAndSoughtChangeNothing() {
        Twins.dueThrowUnchanged("rest(-1)", IAE, x -> x.rest(-1));
        Twins.dueThrowUnchanged("rest(1000)", IAE, x -> x.rest(1000));
        Twins.dueThrowUnchanged("rest of the greatest", IAE, x -> x.rest(GREATEST));
        Twins.dueThrowUnchanged("judge(4, 0)", NSEE, x -> x.judge(4, 0));
        Twins.dueThrowUnchanged("judge(2, 0)", ISE, x -> x.judge(2, 0));
        Twins.dueThrowUnchanged("judge(0, 4)", IAE, x -> x.judge(0, 4));
        Twins.dueThrowUnchanged("perform(-1)", NSEE, x -> x.perform(-1));
        Twins.dueThrowUnchanged("perform(2)", ISE, x -> x.perform(2));
        Twins.dueThrowUnchanged("empties(-2)", IAE, x -> x.empties(-2));
        Twins.dueThrowUnchanged("fills(8, -1)", IAE, x -> x.fills(8, -1));
        Twins.dueThrowUnchanged("fills(3, 6)", IAE, x -> x.fills(3, 6));
        Twins.dueThrowUnchanged("bags(6)", IAE, x -> x.bags(6));
        Twins.dueThrowUnchanged("ballast(1201, 0)", IAE, x -> x.ballast(1201, 0));
        Twins.dueThrowUnchanged("ballast(0, 6)", IAE, x -> x.ballast(0, 6));
        Twins.dueThrowUnchanged("alike(3)", NSEE, x -> x.alike(3));
        Twins.dueThrowUnchanged("alike(2)", ISE, x -> x.alike(2));
        Twins.dueThrowUnchanged("alike(1)", ISE, x -> x.alike(1));
        Twins.dueThrowUnchanged("so(3)", NSEE, x -> x.so(3));
        Twins.dueThrowUnchanged("day(1, 481, 50, 0)", IAE, x -> x.day(1, 481, 50, 0));
        Twins.dueThrowUnchanged("days(31, 5, 50, 0)", IAE, x -> x.days(31, 5, 50, 0));
    }

    @Says(in = "Terms 3", words = "A call that throws changes nothing.")
    static void t3_throwsOfTraysAndImagesChangeNothing() {
        Twins.dueThrowUnchanged("tray(4, 0, 1)", NSEE, x -> x.tray(4, 0, 1));
        Twins.dueThrowUnchanged("tray(0, 4, 1)", IAE, x -> x.tray(0, 4, 1));
        Twins.dueThrowUnchanged("tray(1, 0, 41)", IAE, x -> x.tray(1, 0, 41));
        Twins.dueThrowUnchanged("tray(2, -1, 1)", IAE, x -> x.tray(2, -1, 1));
        Twins.dueThrowUnchanged("write(-1, 0, 5)", NSEE, x -> x.write(-1, 0, 5));
        Twins.dueThrowUnchanged("write(2, 0, 5)", ISE, x -> x.write(2, 0, 5));
        Twins.dueThrowUnchanged("write(0, 3, 5)", IOOBE, x -> x.write(0, 3, 5));
        Twins.dueThrowUnchanged("write(1, -1, 5)", IOOBE, x -> x.write(1, -1, 5));
        Twins.dueThrowUnchanged("write(0, 40, 5)", IOOBE, x -> x.write(0, 40, 5));
        Twins.dueThrowUnchanged("image(3)", NSEE, x -> x.image(3));
        Twins.dueThrowUnchanged("image(-1)", NSEE, x -> x.image(-1));
        Twins.dueThrowUnchanged("restore(3)", NSEE, x -> x.restore(3));
        Twins.dueThrowUnchanged("restore(2)", ISE, x -> x.restore(2));
    }
}
