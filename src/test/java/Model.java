import java.util.ArrayList;
import java.util.Arrays;
import java.util.HashMap;
import java.util.List;
import java.util.Map;
import java.util.NoSuchElementException;

/**
 * The document's words once more, as plainly and slowly as can be, to compare GreatWheel with.
 * It shares no code and no way of reckoning with it: everything is looked up anew from the visits.
 */
final class Model {
    static final int NONE = -1;
    static final int NEVER = 1000;

    /** A fault of a text. */
    static final class Fault extends RuntimeException {
        private static final long serialVersionUID = 1;
        final int kind;
        final int place;

        Fault(int kind, int place) {
            this.kind = kind;
            this.place = place;
        }
    }

    static final class Party {
        final List<Integer> weights = new ArrayList<>();
        int off = 0;
        int rides = 1;
        boolean fear = false;

        int total() {
            int sum = 0;
            for (int w : weights) {
                sum += w;
            }
            return sum;
        }
    }

    static final class Settings {
        int lines = 0;
        int cars = 8;
        int seats = 2;
        int bears = 200;
        int minutes = 2;
        int bag = 20;
        final List<Party> parties = new ArrayList<>();
    }

    static final class Visit {
        Party party;
        int number;
        int came;
        int car = -1;
        int rounds = 0;
        int waited = 0;

        Visit copy() {
            Visit v = new Visit();
            v.party = party;
            v.number = number;
            v.came = came;
            v.car = car;
            v.rounds = rounds;
            v.waited = waited;
            return v;
        }

        boolean isDone() {
            return car >= 0 && rounds >= party.rides;
        }
    }

    interface Test {
        boolean holds(State s);
    }

    static final class Step {
        int again = 1;
        String act;
        Test test = null;
    }

    static final class State {
        Settings set = new Settings();
        List<Step> steps = new ArrayList<>();
        List<Visit> visits = new ArrayList<>();
        int[] bags = new int[12];
        int foot = 0;
        int minute = 0;
        int turns = 0;

        State copy() {
            State s = new State();
            s.set = set;
            s.steps = steps;
            for (Visit v : visits) {
                s.visits.add(v.copy());
            }
            s.bags = bags.clone();
            s.foot = foot;
            s.minute = minute;
            s.turns = turns;
            return s;
        }

        int part(int car, int atFoot) {
            return Math.floorMod(car - atFoot, set.cars) * 24 / set.cars;
        }

        int lever(int car, int atFoot) {
            int[] quarter = {0, 26, 50, 71, 87, 97, 100};
            int part = part(car, atFoot);
            int half = part % 12;
            int size = half <= 6 ? quarter[half] : quarter[12 - half];
            return part < 12 ? size : -size;
        }

        int guests(int car) {
            int sum = 0;
            for (Visit v : visits) {
                if (v.car == car) {
                    sum += v.party.weights.size();
                }
            }
            return sum;
        }

        int load(int car) {
            int sum = bags[car] * set.bag;
            for (Visit v : visits) {
                if (v.car == car) {
                    sum += v.party.total();
                }
            }
            return sum;
        }

        int lean(int atFoot) {
            int sum = 0;
            for (int car = 0; car < set.cars; car++) {
                sum += load(car) * lever(car, atFoot);
            }
            return sum;
        }

        int worst(int atFoot) {
            int sum = Math.abs(lean(atFoot));
            for (Visit v : visits) {
                if (v.car >= 0) {
                    for (int i = 0; i < v.party.weights.size(); i++) {
                        sum += v.party.off * Math.abs(lever(v.car, atFoot));
                    }
                }
            }
            return sum;
        }

        boolean top() {
            for (Visit v : visits) {
                if (v.car >= 0 && v.party.fear && part(v.car, foot) == 12) {
                    return true;
                }
            }
            return false;
        }

        int seated() {
            int sum = 0;
            for (int car = 0; car < set.cars; car++) {
                sum += guests(car);
            }
            return sum;
        }

        List<Visit> waiting() {
            List<Visit> list = new ArrayList<>();
            for (Visit v : visits) {
                if (v.car == -1) {
                    list.add(v);
                }
            }
            return list;
        }

        int done(int car) {
            int sum = 0;
            for (Visit v : visits) {
                if (v.car == car && v.isDone()) {
                    sum++;
                }
            }
            return sum;
        }

        boolean tooFar(int atFoot) {
            return Math.abs(lean(atFoot)) > 100 * set.bears;
        }

        int next() {
            return (foot + 1) % set.cars;
        }

        int may(long act) {
            if (act == 0) {
                return tooFar(next()) ? 3 : 0;
            }
            if (act == 1) {
                return done(foot) == 0 ? 1 : top() ? 4 : 0;
            }
            if (act < 10 || act - 10 >= visits.size()) {
                return 1;
            }
            Visit v = visits.get((int) (act - 10));
            if (v.car != -1) {
                return 1;
            }
            if (guests(foot) + v.party.weights.size() > set.seats) {
                return 2;
            }
            return top() ? 4 : 0;
        }

        int act(long act) {
            int left = 0;
            if (act == 0) {
                foot = next();
                minute += set.minutes;
                turns++;
                for (Visit v : visits) {
                    if (v.car == foot) {
                        v.rounds++;
                    }
                }
            } else if (act == 1) {
                for (Visit v : visits) {
                    if (v.car == foot && v.isDone()) {
                        v.car = -2;
                        left++;
                    }
                }
                minute++;
            } else {
                Visit v = visits.get((int) (act - 10));
                v.car = foot;
                minute++;
                v.waited = minute - v.came;
            }
            return left;
        }

        int firstLoad() {
            for (Visit v : waiting()) {
                if (may(10 + visits.indexOf(v)) == 0) {
                    return 10 + visits.indexOf(v);
                }
            }
            return -1;
        }

        boolean mayStep(Step step) {
            switch (step.act) {
                case "empty":
                    return may(1) == 0;
                case "load":
                    return firstLoad() != -1;
                default:
                    return may(0) == 0;
            }
        }

        void doStep(Step step) {
            for (int n = 0; n < step.again; n++) {
                if (!mayStep(step)) {
                    return;
                }
                switch (step.act) {
                    case "empty":
                        act(1);
                        break;
                    case "load":
                        act(firstLoad());
                        break;
                    case "turn":
                        act(0);
                        break;
                    default:
                        int many = step.act.equals("hurry") ? 2 : set.cars;
                        while (many > 0 && may(0) == 0) {
                            act(0);
                            many--;
                        }
                }
            }
        }

        int go() {
            for (Step step : steps) {
                if ((step.test == null || step.test.holds(this)) && mayStep(step)) {
                    doStep(step);
                    return steps.indexOf(step);
                }
            }
            minute++;
            return NONE;
        }

        int waitOf(Visit v) {
            return v.car == -1 ? minute - v.came : v.waited;
        }

        void come(int party, int atMinute) {
            Visit v = new Visit();
            v.party = set.parties.get(party);
            v.number = party;
            v.came = atMinute;
            visits.add(v);
        }
    }

    State state = new State();
    final byte[] tape = new byte[800];
    int fed = 0;
    int fault = 0;
    int faultPlace = NONE;
    final State[] images = new State[3];
    final long[][] trays = new long[4][];
    final int[] sorts = new int[4];

    // ---- texts

    static final class Tok {
        String kind;
        String word = "";
        int n;
        int place;
    }

    List<Tok> toks;
    int tokAt;

    static List<Tok> lex(String text) {
        List<Tok> list = new ArrayList<>();
        java.util.regex.Matcher m =
                java.util.regex.Pattern.compile("[a-z]+|[0-9]+|[;()]|[ \n]+|[^a-z0-9;() \n]").matcher(text);
        while (m.find()) {
            String s = m.group();
            char c = s.charAt(0);
            if (c == ' ' || c == '\n') {
                continue;
            }
            Tok t = new Tok();
            t.place = m.start();
            t.word = s;
            if (c >= 'a' && c <= 'z') {
                t.kind = "word";
            } else if (c >= '0' && c <= '9') {
                t.kind = s.length() <= 3 ? "number" : "bad";
                t.n = s.length() <= 3 ? Integer.parseInt(s) : 0;
            } else {
                t.kind = ";()".indexOf(c) >= 0 ? "sign" : "bad";
            }
            list.add(t);
        }
        Tok end = new Tok();
        end.kind = "end";
        end.place = text.length();
        list.add(end);
        return list;
    }

    Tok tok() {
        return toks.get(tokAt);
    }

    boolean at(String word) {
        return tok().word.equals(word) && !tok().kind.equals("bad");
    }

    RuntimeException cannotStand() {
        return new Fault(tok().kind.equals("bad") ? 1 : 2, tok().place);
    }

    void want(String word) {
        if (!at(word)) {
            throw cannotStand();
        }
        tokAt++;
    }

    int number(int least, int most) {
        Tok t = tok();
        if (!t.kind.equals("number")) {
            throw cannotStand();
        }
        if (t.n < least || t.n > most) {
            throw new Fault(3, t.place);
        }
        tokAt++;
        return t.n;
    }

    boolean take(String word) {
        if (at(word)) {
            tokAt++;
            return true;
        }
        return false;
    }

    Settings parseWheel() {
        Settings s = new Settings();
        while (!tok().kind.equals("end")) {
            if (at("party") && s.parties.size() == 12) {
                throw new Fault(4, tok().place);
            }
            if (take("cars")) {
                int place = tok().place;
                s.cars = number(4, 12);
                if (!List.of(4, 6, 8, 12).contains(s.cars)) {
                    throw new Fault(3, place);
                }
            } else if (take("seats")) {
                s.seats = number(1, 6);
            } else if (take("bears")) {
                s.bears = number(1, 999);
            } else if (take("minutes")) {
                s.minutes = number(1, 9);
            } else if (take("bag")) {
                s.bag = number(1, 99);
            } else if (take("party")) {
                s.parties.add(parseParty());
            } else {
                throw cannotStand();
            }
            want(";");
            s.lines++;
        }
        return s;
    }

    Party parseParty() {
        Party p = new Party();
        p.weights.add(number(1, 200));
        while (tok().kind.equals("number")) {
            int place = tok().place;
            p.weights.add(number(1, 200));
            if (p.weights.size() > 6) {
                throw new Fault(4, place);
            }
        }
        if (take("off")) {
            p.off = number(0, 50);
        }
        if (take("rides")) {
            p.rides = number(1, 9);
        }
        p.fear = take("fear");
        return p;
    }

    static final List<String> ACTS = List.of("empty", "load", "turn", "hurry", "round");

    List<Step> parseRule() {
        List<Step> list = new ArrayList<>();
        while (!tok().kind.equals("end")) {
            if (list.size() == 12 && (at("again") || ACTS.contains(tok().word))) {
                throw new Fault(4, tok().place);
            }
            Step step = new Step();
            if (take("again")) {
                step.again = number(1, 9);
            }
            if (!ACTS.contains(tok().word)) {
                throw cannotStand();
            }
            step.act = tok().word;
            tokAt++;
            if (take("if")) {
                step.test = parseTest(0);
            }
            want(";");
            list.add(step);
        }
        return list;
    }

    Test parseTest(int open) {
        Test left = parsePart(open);
        while (take("or")) {
            Test a = left;
            Test b = parsePart(open);
            left = s -> a.holds(s) || b.holds(s);
        }
        return left;
    }

    Test parsePart(int open) {
        Test left = parseFact(open);
        while (take("and")) {
            Test a = left;
            Test b = parseFact(open);
            left = s -> a.holds(s) && b.holds(s);
        }
        return left;
    }

    Test parseFact(int open) {
        if ((at("not") || at("(")) && open == 8) {
            throw new Fault(5, tok().place);
        }
        if (take("not")) {
            Test inner = parseFact(open + 1);
            return s -> !inner.holds(s);
        }
        if (take("(")) {
            Test inner = parseTest(open + 1);
            want(")");
            return inner;
        }
        if (take("top")) {
            return State::top;
        }
        String fact = tok().word;
        if (!List.of("done", "room", "waits", "leans", "late", "long", "full").contains(fact)) {
            throw cannotStand();
        }
        tokAt++;
        int n = number(0, 999);
        return s -> isFact(s, fact, n);
    }

    static boolean isFact(State s, String fact, int n) {
        switch (fact) {
            case "done":
                return s.done(s.foot) >= n;
            case "room":
                return s.set.seats - s.guests(s.foot) >= n;
            case "waits":
                return s.waiting().size() >= n;
            case "leans":
                return Math.abs(s.lean(s.foot)) >= 100 * n;
            case "late":
                return s.minute >= n;
            case "long":
                return !s.waiting().isEmpty() && s.minute - s.waiting().get(0).came >= n;
            default:
                return s.seated() >= n;
        }
    }

    int feed(int a, int b, int c, int d, int e) {
        if (fed + 20 > 800) {
            return NONE;
        }
        for (int four : new int[] {a, b, c, d, e}) {
            tape[fed++] = (byte) (four >>> 24);
            tape[fed++] = (byte) (four >>> 16);
            tape[fed++] = (byte) (four >>> 8);
            tape[fed++] = (byte) four;
        }
        return fed;
    }

    void openText(int n) {
        if (n < 0 || n > fed) {
            throw new IllegalArgumentException();
        }
        StringBuilder b = new StringBuilder();
        for (int i = 0; i < n; i++) {
            b.append((char) (tape[i] & 255));
        }
        toks = lex(b.toString());
        tokAt = 0;
        fed = 0;
        fault = 0;
        faultPlace = NONE;
    }

    int failed(Fault f) {
        fault = f.kind;
        faultPlace = f.place;
        return -10 - f.kind;
    }

    int wheel(int n) {
        openText(n);
        try {
            Settings s = parseWheel();
            List<Step> steps = state.steps;
            state = new State();
            state.set = s;
            state.steps = steps;
            return s.lines;
        } catch (Fault f) {
            return failed(f);
        }
    }

    int rule(int n) {
        openText(n);
        try {
            List<Step> steps = parseRule();
            state = state.copy();
            state.steps = steps;
            return steps.size();
        } catch (Fault f) {
            return failed(f);
        }
    }

    int fault(int what) {
        return what == 0 ? fault : what == 1 ? faultPlace : NONE;
    }

    Party needParty(int party) {
        if (party < 0 || party >= state.set.parties.size()) {
            throw new NoSuchElementException();
        }
        return state.set.parties.get(party);
    }

    int party(int party, int what) {
        Party p = needParty(party);
        int[] answers = {p.weights.size(), p.total(), p.off, p.rides, p.fear ? 1 : 0};
        return pick(answers, what);
    }

    static int pick(int[] answers, int what) {
        if (what < 0 || what >= answers.length) {
            throw new IllegalArgumentException();
        }
        return answers[what];
    }

    int weight(int party, int guest) {
        Party p = needParty(party);
        if (guest < 0 || guest >= p.weights.size()) {
            throw new IllegalArgumentException();
        }
        return p.weights.get(guest);
    }

    // ---- who is there

    int come(int party) {
        needParty(party);
        if (state.visits.size() == 60) {
            return NONE;
        }
        state.come(party, state.minute);
        return state.visits.size() - 1;
    }

    int visit(int v, int what) {
        if (v < 0 || v >= state.visits.size()) {
            throw new NoSuchElementException();
        }
        Visit x = state.visits.get(v);
        return pick(new int[] {x.number, x.came, x.car, x.rounds, state.waitOf(x)}, what);
    }

    int waits(int k) {
        List<Visit> w = state.waiting();
        return k < 0 || k >= w.size() ? NONE : state.visits.indexOf(w.get(k));
    }

    void needCar(int car) {
        if (car < 0 || car >= state.set.cars) {
            throw new NoSuchElementException();
        }
    }

    int car(int car, int what) {
        needCar(car);
        int first = NONE;
        for (int v = state.visits.size() - 1; v >= 0; v--) {
            if (state.visits.get(v).car == car) {
                first = v;
            }
        }
        return pick(new int[] {state.guests(car), state.load(car), state.done(car),
            state.part(car, state.foot), state.bags[car], first}, what);
    }

    int bag(int car, int n) {
        needCar(car);
        if (n < 0 || n > 9) {
            throw new IllegalArgumentException();
        }
        int lay = state.bags[car];
        state.bags[car] = n;
        return lay;
    }

    int lean(int car) {
        needCar(car);
        return state.lean(car);
    }

    int worst(int car) {
        needCar(car);
        return state.worst(car);
    }

    int sure() {
        for (int car = 0; car < state.set.cars; car++) {
            if (state.worst(car) > 100 * state.set.bears) {
                return car;
            }
        }
        return NONE;
    }

    boolean top() {
        return state.top();
    }

    // ---- acts

    int may(int act) {
        return state.may(act);
    }

    int load(int v) {
        int refused = v < 0 ? 1 : state.may(10L + v);
        if (refused == 0) {
            state.act(10 + v);
        }
        return refused;
    }

    int empty() {
        int refused = state.may(1);
        return refused != 0 ? -refused : state.act(1);
    }

    int turn() {
        int refused = state.may(0);
        if (refused == 0) {
            state.act(0);
        }
        return refused;
    }

    int rest(int minutes) {
        if (minutes < 0 || minutes > 999 || state.minute + minutes > 99999) {
            throw new IllegalArgumentException();
        }
        state.minute += minutes;
        return state.minute;
    }

    void needTray(int tray) {
        if (tray < 0 || tray > 3) {
            throw new NoSuchElementException();
        }
    }

    long[] needNumbers(int tray) {
        needTray(tray);
        if (trays[tray] == null) {
            throw new IllegalStateException();
        }
        return trays[tray];
    }

    int judge(int tray, int what) {
        long[] acts = needNumbers(tray);
        State s = state.copy();
        int place = NONE;
        int why = 0;
        for (int i = 0; i < acts.length && place == NONE; i++) {
            why = s.may(acts[i]);
            if (why != 0) {
                place = i;
            } else {
                s.act(acts[i]);
            }
        }
        return pick(new int[] {place, why, s.seated(), s.lean(s.foot)}, what);
    }

    int perform(int tray) {
        long[] acts = needNumbers(tray);
        int many = 0;
        while (many < acts.length && state.may(acts[many]) == 0) {
            state.act(acts[many]);
            many++;
        }
        return many;
    }

    // ---- sought

    /** Layers of like many turns; of each state the first way to it, a = let out, b = turn. */
    int empties(int what) {
        if (what < NONE) {
            throw new IllegalArgumentException();
        }
        Map<String, State> layer = new HashMap<>();
        Map<String, String> seen = new HashMap<>();
        Map<String, String> ways = new HashMap<>();
        State s0 = state.copy();
        layer.put(key(s0), s0);
        ways.put(key(s0), "");
        for (int turns = 0; turns < 400 && !layer.isEmpty(); turns++) {
            Map<String, State> all = new HashMap<>(layer);
            for (Map.Entry<String, State> e : layer.entrySet()) {
                State s = e.getValue();
                if (s.guests(s.foot) > 0 && !s.top()) {
                    State t = s.copy();
                    for (Visit v : t.visits) {
                        if (v.car == t.foot) {
                            v.car = -2;
                        }
                    }
                    String way = ways.get(e.getKey()) + "a";
                    String k = key(t);
                    if (!seen.containsKey(k)) {
                        if (!ways.containsKey(k) || way.compareTo(ways.get(k)) < 0) {
                            ways.put(k, way);
                        }
                        all.put(k, t);
                    }
                }
            }
            String end = null;
            for (Map.Entry<String, State> e : all.entrySet()) {
                if (e.getValue().seated() == 0) {
                    String way = ways.get(e.getKey());
                    end = end == null || way.compareTo(end) < 0 ? way : end;
                }
            }
            if (end != null) {
                return what == NONE ? turns : carOfWay(end, what);
            }
            seen.putAll(keysOf(all));
            Map<String, State> next = new HashMap<>();
            Map<String, String> nextWays = new HashMap<>();
            for (Map.Entry<String, State> e : all.entrySet()) {
                State s = e.getValue();
                if (s.may(0) == 0) {
                    State t = s.copy();
                    t.foot = t.next();
                    String way = ways.get(e.getKey()) + "b";
                    String k = key(t);
                    if (!seen.containsKey(k)) {
                        if (!nextWays.containsKey(k) || way.compareTo(nextWays.get(k)) < 0) {
                            nextWays.put(k, way);
                        }
                        next.put(k, t);
                    }
                }
            }
            layer = next;
            ways = nextWays;
        }
        return NONE;
    }

    static Map<String, String> keysOf(Map<String, State> all) {
        Map<String, String> keys = new HashMap<>();
        for (String k : all.keySet()) {
            keys.put(k, k);
        }
        return keys;
    }

    static String key(State s) {
        StringBuilder b = new StringBuilder();
        b.append(s.foot);
        for (int car = 0; car < s.set.cars; car++) {
            b.append(s.guests(car) > 0 ? 'x' : '.');
        }
        return b.toString();
    }

    int carOfWay(String way, int what) {
        int foot = state.foot;
        int k = 0;
        for (char c : way.toCharArray()) {
            if (c == 'b') {
                foot = (foot + 1) % state.set.cars;
            } else {
                if (k == what) {
                    return foot;
                }
                k++;
            }
        }
        return NONE;
    }

    /** Every way to give the visits stops is tried, in the order that the document prefers them. */
    int[] fillAll(int t) {
        List<Visit> w = state.waiting();
        int n = Math.min(6, w.size());
        int[] best = new int[9];
        Arrays.fill(best, NONE);
        best[7] = 0;
        best[8] = 0;
        int[] row = new int[n];
        while (true) {
            int guests = 0;
            int turns = 0;
            for (int i = 0; i < n; i++) {
                if (row[i] <= t) {
                    guests += w.get(i).party.weights.size();
                    turns = Math.max(turns, row[i]);
                }
            }
            if ((guests > best[7] || guests == best[7] && turns < best[8]) && canFill(row, turns)) {
                Arrays.fill(best, NONE);
                for (int i = 0; i < n; i++) {
                    best[i] = row[i] <= t ? row[i] : NONE;
                }
                best[7] = guests;
                best[8] = turns;
            }
            int at = n - 1;
            while (at >= 0 && row[at] == t + 1) {
                row[at] = 0;
                at--;
            }
            if (at < 0) {
                return best;
            }
            row[at]++;
        }
    }

    boolean canFill(int[] row, int turns) {
        State s = state.copy();
        List<Visit> w = s.waiting();
        for (int stop = 0; stop <= turns; stop++) {
            if (stop > 0) {
                if (s.may(0) != 0) {
                    return false;
                }
                s.act(0);
            }
            for (int i = 0; i < row.length; i++) {
                if (row[i] == stop) {
                    int act = 10 + s.visits.indexOf(w.get(i));
                    if (s.may(act) != 0) {
                        return false;
                    }
                    s.act(act);
                }
            }
        }
        return true;
    }

    int fills(int t, int what) {
        if (t < 0 || t > 7 || what < -2 || what > 5) {
            throw new IllegalArgumentException();
        }
        int[] best = fillAll(t);
        return what == NONE ? best[7] : what == -2 ? best[8] : best[what];
    }

    int bags(int what) {
        return ballast(0, what);
    }

    int ballast(int w, int what) {
        if (w < 0 || w > 1200 || what < NONE || what >= state.set.cars) {
            throw new IllegalArgumentException();
        }
        for (int many = 0; many <= 4; many++) {
            int[] row = new int[state.set.cars];
            if (tryBags(row, 0, many, w)) {
                return what == NONE ? many : row[what];
            }
        }
        return NONE;
    }

    boolean tryBags(int[] row, int car, int many, int w) {
        if (car == row.length) {
            return many == 0 && standsWith(row, w);
        }
        for (int n = many; n >= 0; n--) {
            row[car] = n;
            if (tryBags(row, car + 1, many - n, w)) {
                return true;
            }
        }
        row[car] = 0;
        return false;
    }

    boolean standsWith(int[] row, int w) {
        int cars = state.set.cars;
        int[] loads = new int[cars];
        for (int car = 0; car < cars; car++) {
            loads[car] = state.load(car) + row[car] * state.set.bag;
        }
        for (int more = NONE; more < cars; more++) {
            for (int foot = 0; foot < cars; foot++) {
                int sum = 0;
                for (int car = 0; car < cars; car++) {
                    sum += (loads[car] + (car == more ? w : 0)) * state.lever(car, foot);
                }
                if (Math.abs(sum) > 100 * state.set.bears) {
                    return false;
                }
            }
        }
        return true;
    }

    void needImage(int i) {
        if (i < 0 || i > 2) {
            throw new NoSuchElementException();
        }
    }

    int alike(int image) {
        needImage(image);
        if (images[image] == null || images[image].set.cars != state.set.cars) {
            throw new IllegalStateException();
        }
        int cars = state.set.cars;
        int answer = 0;
        for (int by = 0; by < cars; by++) {
            boolean turned = true;
            boolean mirrored = true;
            for (int car = 0; car < cars; car++) {
                turned &= state.load(car) == images[image].load((car + by) % cars);
                mirrored &= state.load(car) == images[image].load(Math.floorMod(by - car, cars));
            }
            if (turned) {
                return 1;
            }
            answer = mirrored ? 2 : answer;
        }
        return answer;
    }

    // ---- the rule

    boolean so(int step) {
        if (step < 0 || step >= state.steps.size()) {
            throw new NoSuchElementException();
        }
        Test test = state.steps.get(step).test;
        return test == null || test.holds(state);
    }

    int go() {
        return state.go();
    }

    int[] dayAll(int seed, int minutes, int come) {
        State s = new State();
        s.set = state.set;
        s.steps = state.steps;
        s.bags = state.bags.clone();
        int x = seed;
        int began = -1;
        int lean = 0;
        while (s.minute < minutes) {
            while (began < s.minute) {
                began++;
                x = 1103515245 * x + 12345;
                if ((x >>> 16) % 100 < come && !s.set.parties.isEmpty() && s.visits.size() < 60) {
                    s.come(s.visits.size() % s.set.parties.size(), began);
                }
            }
            s.go();
            lean = Math.max(lean, Math.abs(s.lean(s.foot)));
        }
        int longest = 0;
        int loaded = 0;
        int total = 0;
        for (Visit v : s.visits) {
            longest = Math.max(longest, s.waitOf(v));
            total += s.waitOf(v);
            loaded += v.car == -1 ? 0 : v.party.weights.size();
        }
        return new int[] {longest, loaded, s.waiting().size(), s.turns, total, lean};
    }

    static void needDay(int minutes, int come) {
        if (minutes < 1 || minutes > 480 || come < 0 || come > 100) {
            throw new IllegalArgumentException();
        }
    }

    int day(int seed, int minutes, int come, int what) {
        needDay(minutes, come);
        return pick(dayAll(seed, minutes, come), what);
    }

    int days(int n, int minutes, int come, int what) {
        if (n < 1 || n > 30) {
            throw new IllegalArgumentException();
        }
        needDay(minutes, come);
        int[] longest = new int[n];
        int loaded = 0;
        int most = 0;
        for (int i = 0; i < n; i++) {
            int[] one = dayAll(i + 1, minutes, come);
            longest[i] = one[0];
            most = Math.max(most, one[0]);
            loaded += one[1];
        }
        int first = 0;
        while (longest[first] != most) {
            first++;
        }
        return pick(new int[] {most, first + 1, loaded}, what);
    }

    // ---- trays, images

    void tray(int tray, int sort, int many) {
        needTray(tray);
        if (sort < 0 || sort > 3 || many < 0 || many > 40) {
            throw new IllegalArgumentException();
        }
        trays[tray] = new long[many];
        sorts[tray] = sort;
    }

    long write(int tray, int place, long v) {
        long[] row = needNumbers(tray);
        if (place < 0 || place >= row.length) {
            throw new IndexOutOfBoundsException();
        }
        int cut = 64 - (8 << sorts[tray]);
        row[place] = v << cut >> cut;
        return row[place];
    }

    void image(int i) {
        needImage(i);
        images[i] = state.copy();
    }

    void restore(int i) {
        needImage(i);
        if (images[i] == null) {
            throw new IllegalStateException();
        }
        state = images[i].copy();
    }

    int count(int what) {
        Settings s = state.set;
        int[] answers = {s.lines, s.cars, s.seats, s.bears, s.minutes, s.bag, s.parties.size(),
            state.visits.size(), state.foot, state.minute, state.seated(), state.steps.size(), fed};
        return what < 0 || what >= answers.length ? NONE : answers[what];
    }
}
