import java.util.Arrays;
import java.util.NoSuchElementException;

/** The great wheel at the fair; the document's promises are named by number at each method. */
public final class GreatWheel {
    public static final int NONE = -1;

    private static final int TAPE_BYTES = 800;
    private static final int FED_AT_ONCE = 20;
    private static final int TRAYS = 4;
    private static final int TRAY_PLACES = 40;
    private static final int SORTS = 4;
    private static final int MISSING = -1;
    private static final int IMAGES = 3;
    private static final int MOST_BAGS = 9;
    private static final int LONGEST_REST = 999;
    private static final int LAST_MINUTE = 99999;
    private static final int MOST_FILL_TURNS = 7;
    private static final int HEAVIEST_BALLAST = 1200;
    private static final int LONGEST_DAY = 480;
    private static final int MOST_DAYS = 30;

    private final byte[] tape;
    private int fed;
    private final Lexer lexer;
    private final RuleReader ruleReader;
    private final Stand stand;
    private final Stand trial;
    private Rule theRule;
    private final Stand[] images;
    private final Rule[] imageRules;
    private final long[] trayCells;
    private final int[] traySorts;
    private final int[] traySizes;
    private final Emptier emptier;
    private final Filler filler;
    private final Bagger bagger;
    private final Day oneDay;

    /** Promise 1. */
    public GreatWheel() {
        Plan plain = new Plan();
        byte[] bytes = new byte[TAPE_BYTES];
        Lexer reading = new Lexer(bytes);
        tape = bytes;
        fed = 0;
        lexer = reading;
        ruleReader = new RuleReader(reading);
        stand = new Stand(plain);
        trial = new Stand(plain);
        theRule = new Rule(0, new int[0], new int[0], new int[0], new int[0]);
        images = new Stand[IMAGES];
        imageRules = new Rule[IMAGES];
        trayCells = new long[TRAYS * TRAY_PLACES];
        traySorts = new int[] {MISSING, MISSING, MISSING, MISSING};
        traySizes = new int[TRAYS];
        emptier = new Emptier();
        filler = new Filler();
        bagger = new Bagger();
        oneDay = new Day();
    }

    // ---- texts

    /** Promise 2. */
    public int feed(int a, int b, int c, int d, int e) {
        if (fed + FED_AT_ONCE > TAPE_BYTES) {
            return NONE;
        }
        putOnTape(a);
        putOnTape(b);
        putOnTape(c);
        putOnTape(d);
        putOnTape(e);
        return fed;
    }

    private void putOnTape(int four) {
        for (int shift = 24; shift >= 0 && fed < tape.length; shift -= 8) {
            tape[fed] = (byte) (four >> shift);
            fed++;
        }
    }

    /** Promise 3. */
    public int wheel(int n) throws IllegalArgumentException {
        needFed(n);
        fed = 0;
        lexer.open(n);
        Plan plan = new Plan();
        if (!new PlanReader(lexer, plan).readText()) {
            return -10 - lexer.fault;
        }
        stand.clear(plan);
        return plan.lines;
    }

    /** Promise 4. */
    public int rule(int n) throws IllegalArgumentException {
        needFed(n);
        fed = 0;
        lexer.open(n);
        if (!ruleReader.readText()) {
            return -10 - lexer.fault;
        }
        theRule = ruleReader.made();
        return theRule.steps;
    }

    private void needFed(int n) {
        if (n < 0 || n > fed) {
            throw new IllegalArgumentException("not so many bytes on the tape");
        }
    }

    /** Promise 5. */
    public int fault(int what) {
        if (what == 0) {
            return lexer.fault;
        }
        return what == 1 ? lexer.faultPlace : NONE;
    }

    /** Promise 6. */
    public int party(int party, int what) throws NoSuchElementException, IllegalArgumentException {
        needParty(party);
        Plan plan = stand.plan;
        switch (what) {
            case 0:
                return plan.guests[party];
            case 1:
                return plan.total[party];
            case 2:
                return plan.off[party];
            case 3:
                return plan.rides[party];
            case 4:
                return plan.fear[party];
            default:
                throw new IllegalArgumentException("no such what");
        }
    }

    /** Promise 7. */
    public int weight(int party, int guest) throws NoSuchElementException, IllegalArgumentException {
        needParty(party);
        if (guest < 0 || guest >= stand.plan.guests[party]) {
            throw new IllegalArgumentException("no such guest");
        }
        return stand.plan.weights[party * Plan.PARTY_GUESTS + guest];
    }

    private void needParty(int party) {
        if (party < 0 || party >= stand.plan.parties) {
            throw new NoSuchElementException("no such party");
        }
    }

    // ---- who is there

    /** Promise 8. */
    public int come(int party) throws NoSuchElementException {
        needParty(party);
        return stand.arrive(party, stand.minute);
    }

    /** Promise 9. */
    public int visit(int v, int what) throws NoSuchElementException, IllegalArgumentException {
        if (v < 0 || v >= stand.visits) {
            throw new NoSuchElementException("no such visit");
        }
        switch (what) {
            case 0:
                return stand.partyOf[v];
            case 1:
                return stand.came[v];
            case 2:
                return stand.place[v];
            case 3:
                return stand.rounds[v];
            case 4:
                return stand.waitOf(v);
            default:
                throw new IllegalArgumentException("no such what");
        }
    }

    /** Promise 10. */
    public int waits(int k) {
        return k < 0 ? NONE : stand.waitingAt(k);
    }

    /** Promise 11. */
    public int car(int car, int what) throws NoSuchElementException, IllegalArgumentException {
        needCar(car);
        switch (what) {
            case 0:
                return stand.guests[car];
            case 1:
                return stand.loads[car];
            case 2:
                return stand.doneIn(car);
            case 3:
                return stand.plan.part(car, stand.foot);
            case 4:
                return stand.sandbags[car];
            case 5:
                return stand.firstIn(car);
            default:
                throw new IllegalArgumentException("no such what");
        }
    }

    /** Promise 12. */
    public int bag(int car, int n) throws NoSuchElementException, IllegalArgumentException {
        needCar(car);
        if (n < 0 || n > MOST_BAGS) {
            throw new IllegalArgumentException("not so many sandbags");
        }
        return stand.putBags(car, n);
    }

    /** Promise 13. */
    public int lean(int car) throws NoSuchElementException {
        needCar(car);
        return stand.leanAt(car);
    }

    /** Promise 14. */
    public int worst(int car) throws NoSuchElementException {
        needCar(car);
        return stand.worstAt(car);
    }

    private void needCar(int car) {
        if (car < 0 || car >= stand.plan.cars) {
            throw new NoSuchElementException("no such car");
        }
    }

    /** Promise 15. */
    public int sure() {
        for (int car = 0; car < stand.plan.cars; car++) {
            if (stand.worstAt(car) > stand.plan.mostLean()) {
                return car;
            }
        }
        return NONE;
    }

    /** Promise 16. */
    public boolean top() {
        return stand.isTop();
    }

    // ---- acts

    /** Promise 17. */
    public int may(int act) {
        return stand.refusedAct(act);
    }

    /** Promise 18. */
    public int load(int v) {
        int refused = stand.refusedLoad(v);
        if (refused == 0) {
            stand.letIn(v);
        }
        return refused;
    }

    /** Promise 19. */
    public int empty() {
        int refused = stand.refusedEmpty();
        return refused == 0 ? stand.letOut() : -refused;
    }

    /** Promise 20. */
    public int turn() {
        int refused = stand.refusedTurn();
        if (refused == 0) {
            stand.turnOn();
        }
        return refused;
    }

    /** Promise 21. */
    public int rest(int minutes) throws IllegalArgumentException {
        if (minutes < 0 || minutes > LONGEST_REST || stand.minute + minutes > LAST_MINUTE) {
            throw new IllegalArgumentException("not so many minutes");
        }
        stand.minute += minutes;
        return stand.minute;
    }

    /** Promise 22. */
    public int judge(int tray, int what)
            throws NoSuchElementException, IllegalStateException, IllegalArgumentException {
        needFullTray(tray);
        if (what < 0 || what > 3) {
            throw new IllegalArgumentException("no such what");
        }
        trial.copyFrom(stand);
        int done = trial.actAll(trayCells, tray * TRAY_PLACES, traySizes[tray]);
        boolean all = done == traySizes[tray];
        if (what == 0) {
            return all ? NONE : done;
        }
        if (what == 1) {
            return all ? 0 : trial.refusedAct(trayCells[tray * TRAY_PLACES + done]);
        }
        return what == 2 ? trial.seated : trial.leanAt(trial.foot);
    }

    /** Promise 23. */
    public int perform(int tray) throws NoSuchElementException, IllegalStateException {
        needFullTray(tray);
        return stand.actAll(trayCells, tray * TRAY_PLACES, traySizes[tray]);
    }

    private void needTray(int tray) {
        if (tray < 0 || tray >= TRAYS) {
            throw new NoSuchElementException("no such tray");
        }
    }

    private void needFullTray(int tray) {
        needTray(tray);
        if (traySorts[tray] == MISSING) {
            throw new IllegalStateException("the tray is missing");
        }
    }

    // ---- sought

    /** Promise 24. */
    public int empties(int what) throws IllegalArgumentException {
        if (what < NONE) {
            throw new IllegalArgumentException("no such what");
        }
        emptier.seek(stand);
        if (what == NONE) {
            return emptier.turns;
        }
        return what < emptier.outs ? emptier.out[what] : NONE;
    }

    /** Promise 25. */
    public int fills(int t, int what) throws IllegalArgumentException {
        if (t < 0 || t > MOST_FILL_TURNS) {
            throw new IllegalArgumentException("not so many turns");
        }
        if (what < -2 || what >= Filler.VISITS) {
            throw new IllegalArgumentException("no such what");
        }
        filler.seek(stand, t);
        if (what == NONE) {
            return filler.bestGuests;
        }
        return what == -2 ? filler.bestTurns : filler.best[what];
    }

    /** Promise 26. */
    public int bags(int what) throws IllegalArgumentException {
        needCarOrNone(what);
        return bagsFor(0, what);
    }

    /** Promise 27. */
    public int ballast(int w, int what) throws IllegalArgumentException {
        if (w < 0 || w > HEAVIEST_BALLAST) {
            throw new IllegalArgumentException("no such weight");
        }
        needCarOrNone(what);
        return bagsFor(w, what);
    }

    private void needCarOrNone(int what) {
        if (what < NONE || what >= stand.plan.cars) {
            throw new IllegalArgumentException("no such car");
        }
    }

    private int bagsFor(int w, int what) {
        bagger.seek(stand, w);
        if (what == NONE || bagger.fewest == NONE) {
            return bagger.fewest;
        }
        return bagger.row[what];
    }

    /** Promise 28. */
    public int alike(int image) throws NoSuchElementException, IllegalStateException {
        needImage(image);
        Stand other = images[image];
        if (other == null || other.plan.cars != stand.plan.cars) {
            throw new IllegalStateException("no image with as many cars");
        }
        if (stand.isLikeTurned(other, 1)) {
            return 1;
        }
        return stand.isLikeTurned(other, -1) ? 2 : 0;
    }

    private void needImage(int i) {
        if (i < 0 || i >= IMAGES) {
            throw new NoSuchElementException("no such image");
        }
    }

    // ---- the rule

    /** Promise 29. */
    public boolean so(int step) throws NoSuchElementException {
        if (step < 0 || step >= theRule.steps) {
            throw new NoSuchElementException("no such step");
        }
        return theRule.holds(step, stand);
    }

    /** Promise 30. */
    public int go() {
        return theRule.goOn(stand);
    }

    /** Promise 31. */
    public int day(int seed, int minutes, int come, int what) throws IllegalArgumentException {
        needDay(minutes, come);
        if (what < 0 || what > 5) {
            throw new IllegalArgumentException("no such what");
        }
        trial.beginDay(stand);
        oneDay.pass(trial, theRule, seed, minutes, come);
        return oneDay.answer(what);
    }

    /** Promise 32. */
    public int days(int n, int minutes, int come, int what) throws IllegalArgumentException {
        if (n < 1 || n > MOST_DAYS) {
            throw new IllegalArgumentException("not so many days");
        }
        needDay(minutes, come);
        if (what < 0 || what > 2) {
            throw new IllegalArgumentException("no such what");
        }
        int longest = NONE;
        int longestSeed = NONE;
        int loaded = 0;
        for (int seed = 1; seed <= n; seed++) {
            trial.beginDay(stand);
            oneDay.pass(trial, theRule, seed, minutes, come);
            loaded += oneDay.loaded;
            if (oneDay.longest > longest) {
                longest = oneDay.longest;
                longestSeed = seed;
            }
        }
        if (what == 0) {
            return longest;
        }
        return what == 1 ? longestSeed : loaded;
    }

    private void needDay(int minutes, int come) {
        if (minutes < 1 || minutes > LONGEST_DAY) {
            throw new IllegalArgumentException("not so many minutes");
        }
        if (come < 0 || come > 100) {
            throw new IllegalArgumentException("come is out of its bounds");
        }
    }

    // ---- trays, images

    /** Promise 33. */
    public void tray(int tray, int sort, int many) throws NoSuchElementException, IllegalArgumentException {
        needTray(tray);
        if (sort < 0 || sort >= SORTS || many < 0 || many > TRAY_PLACES) {
            throw new IllegalArgumentException("no such sort, or not so many");
        }
        traySorts[tray] = sort;
        traySizes[tray] = many;
        int from = tray * TRAY_PLACES;
        for (int place = 0; place < TRAY_PLACES; place++) {
            trayCells[from + place] = 0;
        }
    }

    /** Promise 34. */
    public long write(int tray, int place, long v)
            throws NoSuchElementException, IllegalStateException, IndexOutOfBoundsException {
        needFullTray(tray);
        if (place < 0 || place >= traySizes[tray]) {
            throw new IndexOutOfBoundsException("no such place");
        }
        long cut = cutTo(traySorts[tray], v);
        trayCells[tray * TRAY_PLACES + place] = cut;
        return cut;
    }

    private static long cutTo(int sort, long v) {
        switch (sort) {
            case 0:
                return (byte) v;
            case 1:
                return (short) v;
            case 2:
                return (int) v;
            default:
                return v;
        }
    }

    /** Promise 35. */
    public void image(int i) throws NoSuchElementException {
        needImage(i);
        Stand kept = images[i];
        if (kept == null) {
            kept = new Stand(stand.plan);
            images[i] = kept;
        }
        kept.copyFrom(stand);
        imageRules[i] = theRule;
    }

    /** Promise 36. */
    public void restore(int i) throws NoSuchElementException, IllegalStateException {
        needImage(i);
        Stand kept = images[i];
        Rule keptRule = imageRules[i];
        if (kept == null || keptRule == null) {
            throw new IllegalStateException("no such image was made");
        }
        stand.copyFrom(kept);
        theRule = keptRule;
    }

    /** Promise 37. */
    public int count(int what) {
        if (what >= 0 && what <= 6) {
            return stand.plan.setting(what);
        }
        switch (what) {
            case 7:
                return stand.visits;
            case 8:
                return stand.foot;
            case 9:
                return stand.minute;
            case 10:
                return stand.seated;
            case 11:
                return theRule.steps;
            case 12:
                return fed;
            default:
                return NONE;
        }
    }

    /** What a text is made of; a word's number tells which act or fact it is, NONE for others. */
    private enum Token {
        END("", NONE), BAD("", NONE), NUMBER("", NONE), OTHER("", NONE),
        SEMICOLON("", NONE), OPEN("", NONE), CLOSE("", NONE),
        CARS("cars", NONE), SEATS("seats", NONE), BEARS("bears", NONE),
        MINUTES("minutes", NONE), BAG("bag", NONE), PARTY("party", NONE),
        OFF("off", NONE), RIDES("rides", NONE), FEAR("fear", NONE),
        AGAIN("again", NONE), IF("if", NONE),
        EMPTY("empty", Rule.EMPTY_ONE), LOAD("load", Rule.LOAD_ONE), TURN("turn", Rule.TURN_ONE),
        HURRY("hurry", Rule.HURRY), ROUND("round", Rule.ROUND),
        AND("and", Rule.AND), OR("or", Rule.OR), NOT("not", Rule.NOT),
        DONE("done", Rule.DONE), ROOM("room", Rule.ROOM), WAITS("waits", Rule.WAITS),
        LEANS("leans", Rule.LEANS), LATE("late", Rule.LATE), LONG("long", Rule.LONG),
        FULL("full", Rule.FULL), TOP("top", Rule.TOP);

        private static final Token[] ALL = values();

        private final String text;
        private final int code;

        Token(String text, int code) {
            this.text = text;
            this.code = code;
        }

        boolean isAct() {
            return code >= Rule.EMPTY_ONE && code <= Rule.ROUND;
        }

        boolean isFactOfNumber() {
            return code >= Rule.DONE && code <= Rule.FULL;
        }

        /** The word that stands in the bytes; the caller keeps from and to within them. */
        static Token named(byte[] bytes, int from, int to) {
            for (int i = 0; i < ALL.length; i++) {
                String text = ALL[i].text;
                int same = 0;
                if (text.length() == to - from) {
                    while (same < text.length() && text.charAt(same) == bytes[from + same]) {
                        same++;
                    }
                }
                if (same > 0 && same == text.length()) {
                    return ALL[i];
                }
            }
            return OTHER;
        }
    }

    /** Goes along a text token by token, and keeps the latest text's fault. */
    private static final class Lexer {
        private static final int MOST_DIGITS = 3;

        private final byte[] text;
        private int length;
        private int at;
        private Token token;
        private int place;
        private int number;
        private int fault;
        private int faultPlace;

        Lexer(byte[] text) {
            this.text = text;
            token = Token.END;
            faultPlace = NONE;
        }

        void open(int n) {
            length = n < 0 ? 0 : n < text.length ? n : text.length;
            at = 0;
            fault = 0;
            faultPlace = NONE;
            next();
        }

        void next() {
            while (at < length && (text[at] == 32 || text[at] == 10)) {
                at++;
            }
            place = at;
            if (at >= length) {
                token = Token.END;
            } else if (isLetter(text[at])) {
                while (at < length && isLetter(text[at])) {
                    at++;
                }
                token = Token.named(text, place, at);
            } else if (isDigit(text[at])) {
                number = 0;
                while (at < length && isDigit(text[at])) {
                    // More digits than three are no number at all, so what they come to is never read.
                    number = at - place < MOST_DIGITS ? 10 * number + text[at] - '0' : 0;
                    at++;
                }
                token = at - place > MOST_DIGITS ? Token.BAD : Token.NUMBER;
            } else {
                token = sign(text[at]);
                at++;
            }
        }

        private static boolean isLetter(int sign) {
            return sign >= 'a' && sign <= 'z';
        }

        private static boolean isDigit(int sign) {
            return sign >= '0' && sign <= '9';
        }

        private static Token sign(int sign) {
            if (sign == ';') {
                return Token.SEMICOLON;
            }
            if (sign == '(') {
                return Token.OPEN;
            }
            return sign == ')' ? Token.CLOSE : Token.BAD;
        }

        /** Always false, so that a reader can answer with it. */
        boolean fail(int kind) {
            fault = kind;
            faultPlace = place;
            return false;
        }

        boolean refuse() {
            return fail(token == Token.BAD ? 1 : 2);
        }

        boolean pass(Token due) {
            if (token != due) {
                return refuse();
            }
            next();
            return true;
        }

        /** Looks only, so that a reader can judge the same token further before it goes on. */
        boolean isNumberWithin(int least, int most) {
            if (token != Token.NUMBER) {
                return fail(token == Token.BAD ? 1 : 2);
            }
            return number >= least && number <= most || fail(3);
        }
    }

    /** THE WHEEL as its text tells it; nothing in it changes once it is read. */
    private static final class Plan {
        private static final int PARTIES = 12;
        private static final int PARTY_GUESTS = 6;
        private static final int MOST_CARS = 12;
        private static final int[] LEVER = {
            0, 26, 50, 71, 87, 97, 100, 97, 87, 71, 50, 26,
            0, -26, -50, -71, -87, -97, -100, -97, -87, -71, -50, -26};

        private int lines;
        private int cars;
        private int partsApart;
        private int seats;
        private int bears;
        private int minutes;
        private int bagWeight;
        private int parties;
        private final int[] guests;
        private final int[] weights;
        private final int[] total;
        private final int[] off;
        private final int[] rides;
        private final int[] fear;

        Plan() {
            cars = 8;
            partsApart = 3;
            seats = 2;
            bears = 200;
            minutes = 2;
            bagWeight = 20;
            guests = new int[PARTIES];
            weights = new int[PARTIES * PARTY_GUESTS];
            total = new int[PARTIES];
            off = new int[PARTIES];
            rides = new int[PARTIES];
            fear = new int[PARTIES];
        }

        int setting(int what) {
            switch (what) {
                case 0:
                    return lines;
                case 1:
                    return cars;
                case 2:
                    return seats;
                case 3:
                    return bears;
                case 4:
                    return minutes;
                case 5:
                    return bagWeight;
                default:
                    return parties;
            }
        }

        int mostLean() {
            return 100 * bears;
        }

        int behind(int car) {
            return car + 1 < cars ? car + 1 : 0;
        }

        int opposite(int car) {
            int half = cars >> 1;
            return car < half ? car + half : car - half;
        }

        /** The 24th at which a car stands. */
        int part(int car, int foot) {
            int way = car - foot;
            return (way < 0 ? way + cars : way) * partsApart;
        }

        int lever(int car, int foot) {
            int part = part(car, foot);
            return part >= 0 && part < LEVER.length ? LEVER[part] : 0;
        }

        /** LEAN of a row of loads by cars; behind the last 24th comes the first again. */
        int leanOf(int[] loads, int foot) {
            int part = foot > 0 && foot < cars ? (cars - foot) * partsApart : 0;
            int sum = 0;
            for (int car = 0; car < cars; car++) {
                sum += loads[car] * LEVER[part];
                part += partsApart;
                if (part >= LEVER.length) {
                    part = 0;
                }
            }
            return sum;
        }

        int longestLever() {
            int longest = 0;
            for (int car = 0; car < cars; car++) {
                longest = Math.max(longest, lever(car, 0));
            }
            return longest;
        }
    }

    private static final class PlanReader {
        private static final int MOST_LINES = 800;

        private final Lexer lexer;
        private final Plan plan;

        PlanReader(Lexer lexer, Plan plan) {
            this.lexer = lexer;
            this.plan = plan;
        }

        boolean readText() {
            for (int line = 0; line < MOST_LINES && lexer.token != Token.END; line++) {
                if (!readLine() || !lexer.pass(Token.SEMICOLON)) {
                    return false;
                }
                plan.lines++;
            }
            return true;
        }

        private boolean readLine() {
            Token word = lexer.token;
            if (word == Token.PARTY) {
                return readParty();
            }
            int most = mostOf(word);
            if (most == NONE) {
                return lexer.refuse();
            }
            lexer.next();
            if (!lexer.isNumberWithin(1, most)) {
                return false;
            }
            int n = lexer.number;
            if (word == Token.CARS && n != 4 && n != 6 && n != 8 && n != 12) {
                return lexer.fail(3);
            }
            set(word, n);
            lexer.next();
            return true;
        }

        private static int mostOf(Token word) {
            if (word == Token.CARS) {
                return Plan.MOST_CARS;
            }
            if (word == Token.SEATS) {
                return 6;
            }
            if (word == Token.BEARS) {
                return 999;
            }
            if (word == Token.MINUTES) {
                return 9;
            }
            return word == Token.BAG ? 99 : NONE;
        }

        private void set(Token word, int n) {
            if (word == Token.CARS) {
                plan.cars = n;
                plan.partsApart = n == 4 ? 6 : n == 6 ? 4 : n == 8 ? 3 : 2;
            } else if (word == Token.SEATS) {
                plan.seats = n;
            } else if (word == Token.BEARS) {
                plan.bears = n;
            } else if (word == Token.MINUTES) {
                plan.minutes = n;
            } else {
                plan.bagWeight = n;
            }
        }

        private boolean readParty() {
            int party = plan.parties;
            if (party >= Plan.PARTIES) {
                return lexer.fail(4);
            }
            lexer.next();
            plan.parties++;
            if (!readGuests(party)) {
                return false;
            }
            plan.off[party] = readExtra(Token.OFF, 0, 50);
            if (plan.off[party] == NONE) {
                return false;
            }
            plan.rides[party] = readExtra(Token.RIDES, 1, 9);
            if (plan.rides[party] == NONE) {
                return false;
            }
            if (lexer.token == Token.FEAR) {
                plan.fear[party] = 1;
                lexer.next();
            }
            return true;
        }

        private boolean readGuests(int party) {
            int guests = 0;
            for (int n = 0; n <= Plan.PARTY_GUESTS && (n == 0 || lexer.token == Token.NUMBER); n++) {
                if (!lexer.isNumberWithin(1, 200)) {
                    return false;
                }
                if (guests == Plan.PARTY_GUESTS) {
                    return lexer.fail(4);
                }
                plan.weights[party * Plan.PARTY_GUESTS + guests] = lexer.number;
                plan.total[party] += lexer.number;
                guests++;
                lexer.next();
            }
            plan.guests[party] = guests;
            return true;
        }

        /** What is told behind the word, or the least, which holds where the word isn't; NONE: a fault. */
        private int readExtra(Token word, int least, int most) {
            if (lexer.token != word) {
                return least;
            }
            lexer.next();
            if (!lexer.isNumberWithin(least, most)) {
                return NONE;
            }
            int told = lexer.number;
            lexer.next();
            return told;
        }
    }

    /** THE RULE as its text tells it: tests stand behind one another as codes, operands ahead of and, or, not. */
    private static final class Rule {
        private static final int EMPTY_ONE = 0;
        private static final int LOAD_ONE = 1;
        private static final int TURN_ONE = 2;
        private static final int HURRY = 3;
        private static final int ROUND = 4;
        private static final int DONE = 5;
        private static final int ROOM = 6;
        private static final int WAITS = 7;
        private static final int LEANS = 8;
        private static final int LATE = 9;
        private static final int LONG = 10;
        private static final int FULL = 11;
        private static final int TOP = 12;
        private static final int NOT = 13;
        private static final int AND = 14;
        private static final int OR = 15;

        private final int steps;
        private final int[] again;
        private final int[] act;
        private final int[] codesEnd;
        private final int[] codes;

        /** Rows are kept, not copied: the caller hands over its own copies. */
        Rule(int steps, int[] again, int[] act, int[] codesEnd, int[] codes) {
            this.steps = steps;
            this.again = again;
            this.act = act;
            this.codesEnd = codesEnd;
            this.codes = codes;
        }

        int goOn(Stand stand) {
            for (int step = 0; step < steps; step++) {
                if (holds(step, stand) && mayBe(act[step], stand)) {
                    for (int n = 0; n < again[step] && mayBe(act[step], stand); n++) {
                        doOnce(act[step], stand);
                    }
                    return step;
                }
            }
            stand.minute++;
            return NONE;
        }

        /** Bits of a long are a stack of what is so; eight levels of a test never need all 64. */
        boolean holds(int step, Stand stand) {
            int from = step == 0 ? 0 : codesEnd[step - 1];
            if (from == codesEnd[step]) {
                return true;
            }
            long stack = 0;
            for (int i = from; i < codesEnd[step]; i++) {
                int code = codes[i] & 15;
                if (code == NOT) {
                    stack ^= 1;
                } else if (code == AND) {
                    stack = (stack >>> 1) & (stack | ~1L);
                } else if (code == OR) {
                    stack = (stack >>> 1) | (stack & 1);
                } else {
                    stack = (stack << 1) | (isFact(code, codes[i] >> 4, stand) ? 1 : 0);
                }
            }
            return (stack & 1) == 1;
        }

        private static boolean isFact(int code, int n, Stand stand) {
            switch (code) {
                case DONE:
                    return stand.doneIn(stand.foot) >= n;
                case ROOM:
                    return stand.plan.seats - stand.guests[stand.foot] >= n;
                case WAITS:
                    return stand.waiting >= n;
                case LEANS:
                    return Math.abs(stand.leanAt(stand.foot)) >= 100 * n;
                case LATE:
                    return stand.minute >= n;
                case LONG:
                    int first = stand.waitingAt(0);
                    return first != NONE && stand.waitOf(first) >= n;
                case FULL:
                    return stand.seated >= n;
                default:
                    return stand.isTop();
            }
        }

        private static boolean mayBe(int act, Stand stand) {
            if (act == EMPTY_ONE) {
                return stand.refusedEmpty() == 0;
            }
            if (act == LOAD_ONE) {
                return stand.firstLoadable() != NONE;
            }
            return stand.refusedTurn() == 0;
        }

        private static void doOnce(int act, Stand stand) {
            if (act == EMPTY_ONE) {
                stand.letOut();
            } else if (act == LOAD_ONE) {
                stand.letIn(stand.firstLoadable());
            } else {
                int most = act == TURN_ONE ? 1 : act == HURRY ? 2 : stand.plan.cars;
                for (int n = 0; n < most && stand.refusedTurn() == 0; n++) {
                    stand.turnOn();
                }
            }
        }
    }

    private static final class RuleReader {
        private static final int MOST_STEPS = 12;
        private static final int MOST_OPEN = 8;
        private static final int MOST_CODES = 400;
        private static final int MOST_TOKENS = 800;
        private static final int GREATEST = 999;

        private final Lexer lexer;
        private int steps;
        private final int[] again;
        private final int[] act;
        private final int[] codesEnd;
        private final int[] codes;
        private int used;

        RuleReader(Lexer lexer) {
            this.lexer = lexer;
            again = new int[MOST_STEPS];
            act = new int[MOST_STEPS];
            codesEnd = new int[MOST_STEPS];
            codes = new int[MOST_CODES];
        }

        boolean readText() {
            steps = 0;
            used = 0;
            // One more round than there may be steps, so that the 13th is seen and refused.
            for (int n = 0; n <= MOST_STEPS && lexer.token != Token.END; n++) {
                if (!readStep()) {
                    return false;
                }
            }
            return true;
        }

        Rule made() {
            return new Rule(steps, Arrays.copyOf(again, steps), Arrays.copyOf(act, steps),
                    Arrays.copyOf(codesEnd, steps), Arrays.copyOf(codes, used));
        }

        private boolean readStep() {
            if (lexer.token != Token.AGAIN && !lexer.token.isAct()) {
                return lexer.refuse();
            }
            if (steps >= MOST_STEPS) {
                return lexer.fail(4);
            }
            int often = readAgain();
            if (often == NONE) {
                return false;
            }
            if (!lexer.token.isAct()) {
                return lexer.refuse();
            }
            again[steps] = often;
            act[steps] = lexer.token.code;
            lexer.next();
            if (lexer.token == Token.IF) {
                lexer.next();
                if (!readTest(0)) {
                    return false;
                }
            }
            codesEnd[steps] = used;
            steps++;
            return lexer.pass(Token.SEMICOLON);
        }

        private int readAgain() {
            if (lexer.token != Token.AGAIN) {
                return 1;
            }
            lexer.next();
            if (!lexer.isNumberWithin(1, 9)) {
                return NONE;
            }
            int often = lexer.number;
            lexer.next();
            return often;
        }

        /** Open tells how many not and ( stand open around it. */
        private boolean readTest(int open) {
            if (!readPart(open)) {
                return false;
            }
            for (int n = 0; n < MOST_TOKENS && lexer.token == Token.OR; n++) {
                lexer.next();
                if (!readPart(open)) {
                    return false;
                }
                put(Rule.OR);
            }
            return true;
        }

        private boolean readPart(int open) {
            if (!readFact(open)) {
                return false;
            }
            for (int n = 0; n < MOST_TOKENS && lexer.token == Token.AND; n++) {
                lexer.next();
                if (!readFact(open)) {
                    return false;
                }
                put(Rule.AND);
            }
            return true;
        }

        private boolean readFact(int open) {
            Token word = lexer.token;
            if (word == Token.TOP) {
                lexer.next();
                return put(Rule.TOP);
            }
            if (word.isFactOfNumber()) {
                lexer.next();
                if (!lexer.isNumberWithin(0, GREATEST)) {
                    return false;
                }
                put(word.code | lexer.number << 4);
                lexer.next();
                return true;
            }
            if (word != Token.NOT && word != Token.OPEN) {
                return lexer.refuse();
            }
            if (open >= MOST_OPEN) {
                return lexer.fail(5);
            }
            lexer.next();
            if (word == Token.NOT) {
                return readFact(open + 1) && put(Rule.NOT);
            }
            if (!readTest(open + 1)) {
                return false;
            }
            if (lexer.token != Token.CLOSE) {
                return lexer.refuse();
            }
            lexer.next();
            return true;
        }

        /** A code's word has two letters at least, so 800 bytes never ask for more than there is room. */
        private boolean put(int code) {
            if (used < codes.length) {
                codes[used] = code;
                used++;
            }
            return true;
        }
    }

    /** Who is there and how the wheel stands. */
    private static final class Stand {
        private static final int MOST_VISITS = 60;
        private static final int STILL_WAITS = -1;
        private static final int GONE = -2;

        private Plan plan;
        private int foot;
        private int minute;
        private int visits;
        private int waiting;
        private int seated;
        private int turns;
        private final int[] partyOf;
        private final int[] came;
        private final int[] place;
        private final int[] rounds;
        private final int[] waited;
        private final int[] guests;
        private final int[] loads;
        private final int[] guessed;
        private final int[] fears;
        private final int[] sandbags;

        Stand(Plan plan) {
            this.plan = plan;
            partyOf = new int[MOST_VISITS];
            came = new int[MOST_VISITS];
            place = new int[MOST_VISITS];
            rounds = new int[MOST_VISITS];
            waited = new int[MOST_VISITS];
            guests = new int[Plan.MOST_CARS];
            loads = new int[Plan.MOST_CARS];
            guessed = new int[Plan.MOST_CARS];
            fears = new int[Plan.MOST_CARS];
            sandbags = new int[Plan.MOST_CARS];
        }

        void clear(Plan newPlan) {
            plan = newPlan;
            foot = 0;
            minute = 0;
            visits = 0;
            waiting = 0;
            seated = 0;
            turns = 0;
            Arrays.fill(guests, 0);
            Arrays.fill(loads, 0);
            Arrays.fill(guessed, 0);
            Arrays.fill(fears, 0);
            Arrays.fill(sandbags, 0);
        }

        void beginDay(Stand from) {
            clear(from.plan);
            for (int car = 0; car < plan.cars; car++) {
                putBags(car, from.sandbags[car]);
            }
        }

        void copyFrom(Stand from) {
            plan = from.plan;
            foot = from.foot;
            minute = from.minute;
            visits = from.visits;
            waiting = from.waiting;
            seated = from.seated;
            turns = from.turns;
            System.arraycopy(from.partyOf, 0, partyOf, 0, MOST_VISITS);
            System.arraycopy(from.came, 0, came, 0, MOST_VISITS);
            System.arraycopy(from.place, 0, place, 0, MOST_VISITS);
            System.arraycopy(from.rounds, 0, rounds, 0, MOST_VISITS);
            System.arraycopy(from.waited, 0, waited, 0, MOST_VISITS);
            System.arraycopy(from.guests, 0, guests, 0, Plan.MOST_CARS);
            System.arraycopy(from.loads, 0, loads, 0, Plan.MOST_CARS);
            System.arraycopy(from.guessed, 0, guessed, 0, Plan.MOST_CARS);
            System.arraycopy(from.fears, 0, fears, 0, Plan.MOST_CARS);
            System.arraycopy(from.sandbags, 0, sandbags, 0, Plan.MOST_CARS);
        }

        int arrive(int party, int inMinute) {
            if (visits >= MOST_VISITS || party < 0 || party >= plan.parties) {
                return NONE;
            }
            int v = visits;
            partyOf[v] = party;
            came[v] = inMinute;
            place[v] = STILL_WAITS;
            rounds[v] = 0;
            waited[v] = 0;
            visits++;
            waiting++;
            return v;
        }

        int waitOf(int v) {
            return place[v] == STILL_WAITS ? minute - came[v] : waited[v];
        }

        int waitingAt(int k) {
            int ahead = 0;
            for (int v = 0; v < visits; v++) {
                if (place[v] == STILL_WAITS) {
                    if (ahead == k) {
                        return v;
                    }
                    ahead++;
                }
            }
            return NONE;
        }

        int guestsOf(int v) {
            return plan.guests[partyOf[v]];
        }

        private boolean isDone(int v) {
            return rounds[v] >= plan.rides[partyOf[v]];
        }

        int doneIn(int car) {
            int done = 0;
            for (int v = 0; v < visits; v++) {
                if (place[v] == car && isDone(v)) {
                    done++;
                }
            }
            return done;
        }

        int firstIn(int car) {
            for (int v = 0; v < visits; v++) {
                if (place[v] == car) {
                    return v;
                }
            }
            return NONE;
        }

        int putBags(int car, int many) {
            int lay = sandbags[car];
            sandbags[car] = many;
            loads[car] += (many - lay) * plan.bagWeight;
            return lay;
        }

        int bagsLoad(int car) {
            return sandbags[car] * plan.bagWeight;
        }

        int leanAt(int atFoot) {
            return plan.leanOf(loads, atFoot);
        }

        int worstAt(int atFoot) {
            int sum = Math.abs(leanAt(atFoot));
            for (int car = 0; car < plan.cars; car++) {
                sum += guessed[car] * Math.abs(plan.lever(car, atFoot));
            }
            return sum;
        }

        boolean isTop() {
            return fears[plan.opposite(foot)] > 0;
        }

        int refusedLoad(int v) {
            if (v < 0 || v >= visits || place[v] != STILL_WAITS) {
                return 1;
            }
            if (guests[foot] + guestsOf(v) > plan.seats) {
                return 2;
            }
            return isTop() ? 4 : 0;
        }

        int refusedEmpty() {
            if (doneIn(foot) == 0) {
                return 1;
            }
            return isTop() ? 4 : 0;
        }

        int refusedTurn() {
            return Math.abs(leanAt(plan.behind(foot))) > plan.mostLean() ? 3 : 0;
        }

        int firstLoadable() {
            for (int v = 0; v < visits; v++) {
                if (refusedLoad(v) == 0) {
                    return v;
                }
            }
            return NONE;
        }

        /** Of a visit that may be loaded. */
        void letIn(int v) {
            if (v < 0 || v >= visits) {
                return;
            }
            place[v] = foot;
            waiting--;
            changeGuests(v, foot, 1);
            minute++;
            waited[v] = minute - came[v];
        }

        int letOut() {
            int left = 0;
            for (int v = 0; v < visits; v++) {
                if (place[v] == foot && isDone(v)) {
                    place[v] = GONE;
                    changeGuests(v, foot, -1);
                    left++;
                }
            }
            minute++;
            return left;
        }

        private void changeGuests(int v, int car, int sign) {
            int party = partyOf[v];
            int many = sign * plan.guests[party];
            seated += many;
            guests[car] += many;
            loads[car] += sign * plan.total[party];
            guessed[car] += many * plan.off[party];
            fears[car] += sign * plan.fear[party];
        }

        void turnOn() {
            foot = plan.behind(foot);
            minute += plan.minutes;
            turns++;
            for (int v = 0; v < visits; v++) {
                if (place[v] == foot) {
                    rounds[v]++;
                }
            }
        }

        /** An act by its number as of JUDGED. */
        int refusedAct(long act) {
            if (act == 0) {
                return refusedTurn();
            }
            if (act == 1) {
                return refusedEmpty();
            }
            return act >= 10 && act < 10 + MOST_VISITS ? refusedLoad((int) act - 10) : 1;
        }

        private void doAct(long act) {
            if (act == 0) {
                turnOn();
            } else if (act == 1) {
                letOut();
            } else {
                letIn((int) act - 10);
            }
        }

        /** How many acts were done till one may not be. */
        int actAll(long[] acts, int from, int many) {
            for (int i = 0; i < many && from + i < acts.length; i++) {
                if (refusedAct(acts[from + i]) != 0) {
                    return i;
                }
                doAct(acts[from + i]);
            }
            return many;
        }

        /** Way 1: cars are compared in the same order round, way -1: mirrored. */
        boolean isLikeTurned(Stand other, int way) {
            for (int shift = 0; shift < plan.cars; shift++) {
                int same = 0;
                int there = shift;
                while (same < plan.cars && loads[same] == other.loads[there]) {
                    same++;
                    there += way;
                    there = there < 0 ? plan.cars - 1 : there < plan.cars ? there : 0;
                }
                if (same == plan.cars) {
                    return true;
                }
            }
            return false;
        }
    }

    /** A DAY and what it came to. */
    private static final class Day {
        private int longest;
        private int loaded;
        private int waiting;
        private int turns;
        private int total;
        private int greatestLean;

        void pass(Stand stand, Rule rule, int seed, int minutes, int come) {
            int draw = seed;
            int drawnTill = 0;
            greatestLean = 0;
            // Every going takes a minute at least, so there are no more goings than minutes.
            for (int going = 0; going < minutes && stand.minute < minutes; going++) {
                for (int minute = drawnTill; minute <= stand.minute; minute++) {
                    draw = 1103515245 * draw + 12345;
                    if ((draw >>> 16) % 100 < come && stand.plan.parties > 0) {
                        stand.arrive(Math.floorMod(stand.visits, stand.plan.parties), minute);
                    }
                }
                drawnTill = stand.minute + 1;
                rule.goOn(stand);
                greatestLean = Math.max(greatestLean, Math.abs(stand.leanAt(stand.foot)));
            }
            sumUp(stand);
        }

        private void sumUp(Stand stand) {
            longest = 0;
            loaded = 0;
            total = 0;
            waiting = stand.waiting;
            turns = stand.turns;
            for (int v = 0; v < stand.visits; v++) {
                int wait = stand.waitOf(v);
                longest = Math.max(longest, wait);
                total += wait;
                if (stand.place[v] != Stand.STILL_WAITS) {
                    loaded += stand.guestsOf(v);
                }
            }
        }

        int answer(int what) {
            switch (what) {
                case 0:
                    return longest;
                case 1:
                    return loaded;
                case 2:
                    return waiting;
                case 3:
                    return turns;
                case 4:
                    return total;
                default:
                    return greatestLean;
            }
        }
    }

    /** EMPTYING: for each set of cars where somebody still sits and each foot, the fewest turns from there. */
    private static final class Emptier {
        private static final int NEVER = 100000;
        private static final int MOST_MOVES = 200;

        private int turns;
        private int outs;
        private final int[] out;
        private int full;
        private final int[] carOf;
        private final int[] bitOf;
        private final int[] leans;
        private int[] fewest;

        Emptier() {
            out = new int[Plan.MOST_CARS];
            carOf = new int[Plan.MOST_CARS];
            bitOf = new int[Plan.MOST_CARS];
            leans = new int[(Plan.MOST_CARS + 1) * Plan.MOST_CARS];
            fewest = new int[0];
        }

        void seek(Stand stand) {
            numberFullCars(stand);
            // The row grows with the full cars alone: most wheels need a small one.
            if (fewest.length < (Plan.MOST_CARS << full)) {
                fewest = new int[Plan.MOST_CARS << full];
            }
            leanOfBagsAlone(stand);
            int sets = 1 << full;
            for (int set = 0; set < sets; set++) {
                leanWith(stand, set);
                settle(stand, set);
            }
            walk(stand);
        }

        private void numberFullCars(Stand stand) {
            full = 0;
            for (int car = 0; car < stand.plan.cars; car++) {
                bitOf[car] = 0;
                if (stand.guests[car] > 0) {
                    bitOf[car] = 1 << full;
                    carOf[full] = car;
                    full++;
                }
            }
        }

        private void leanOfBagsAlone(Stand stand) {
            int at = full * Plan.MOST_CARS;
            for (int foot = 0; foot < stand.plan.cars; foot++) {
                leans[at + foot] = 0;
                for (int car = 0; car < stand.plan.cars; car++) {
                    leans[at + foot] += stand.bagsLoad(car) * stand.plan.lever(car, foot);
                }
            }
        }

        /** Sets come in rising order, so the row of the set without its lowest car still stands. */
        private void leanWith(Stand stand, int set) {
            if (set == 0) {
                return;
            }
            int rest = set & (set - 1);
            int level = rowOf(set);
            int above = rowOf(rest) * Plan.MOST_CARS;
            int at = level * Plan.MOST_CARS;
            int car = carOf[level];
            int weight = stand.loads[car] - stand.bagsLoad(car);
            for (int foot = 0; foot < stand.plan.cars; foot++) {
                leans[at + foot] = leans[above + foot] + weight * stand.plan.lever(car, foot);
            }
        }

        /** Leans of a set stand in the row of its lowest car, those of no car behind all. */
        private int rowOf(int set) {
            int row = 0;
            while (row < full && (set >> row & 1) == 0) {
                row++;
            }
            return row;
        }

        private void settle(Stand stand, int set) {
            int cars = stand.plan.cars;
            int at = set * Plan.MOST_CARS;
            int row = rowOf(set) * Plan.MOST_CARS;
            for (int foot = 0; foot < cars; foot++) {
                fewest[at + foot] = set == 0 ? 0 : NEVER;
                if (mayLetOut(stand, set, foot)) {
                    fewest[at + foot] = fewest[(set ^ bitOf[foot]) * Plan.MOST_CARS + foot];
                }
            }
            // Twice round, as turns go round past the foot where this began.
            for (int back = 2 * cars - 1; back >= 0; back--) {
                int foot = back < cars ? back : back - cars;
                int next = stand.plan.behind(foot);
                if (Math.abs(leans[row + next]) <= stand.plan.mostLean()) {
                    fewest[at + foot] = Math.min(fewest[at + foot], fewest[at + next] + 1);
                }
            }
        }

        private boolean mayLetOut(Stand stand, int set, int foot) {
            int top = stand.plan.opposite(foot);
            boolean isTop = stand.fears[top] > 0 && (set & bitOf[top]) != 0;
            return (set & bitOf[foot]) != 0 && !isTop;
        }

        private void walk(Stand stand) {
            int set = (1 << full) - 1;
            int foot = stand.foot;
            outs = 0;
            turns = fewest[set * Plan.MOST_CARS + foot];
            if (turns >= NEVER) {
                turns = NONE;
                return;
            }
            for (int move = 0; move < MOST_MOVES && set != 0 && outs < out.length; move++) {
                int without = set & ~bitOf[foot];
                int here = fewest[set * Plan.MOST_CARS + foot];
                if (mayLetOut(stand, set, foot) && fewest[without * Plan.MOST_CARS + foot] == here) {
                    out[outs] = foot;
                    outs++;
                    set = without;
                } else {
                    foot = stand.plan.behind(foot);
                }
            }
        }
    }

    /** FILLING: tries, stop by stop, which of the waiting visits get in; visit 0 of them has the highest bit. */
    private static final class Filler {
        private static final int VISITS = 6;
        private static final int SETS = 64;
        private static final int NOT_AT_ALL = 99;

        private int bestGuests;
        private int bestTurns;
        private final int[] best;
        private int lastStop;
        private int nowGuests;
        private final int[] now;
        private final int[] earlierTwins;
        private final int[] guestsOf;
        private final int[] weightOf;
        private final int[] fearsOf;
        private final int[] sumsOf;
        private final int[] loads;
        private final int[] rooms;
        private final int[] fears;

        Filler() {
            best = new int[VISITS];
            now = new int[VISITS];
            earlierTwins = new int[VISITS];
            guestsOf = new int[SETS];
            weightOf = new int[SETS];
            fearsOf = new int[SETS];
            sumsOf = new int[SETS];
            sumsOf[0] = 1;
            loads = new int[Plan.MOST_CARS];
            rooms = new int[Plan.MOST_CARS];
            fears = new int[Plan.MOST_CARS];
        }

        void seek(Stand stand, int t) {
            bestGuests = 0;
            bestTurns = 0;
            nowGuests = 0;
            lastStop = t;
            Arrays.fill(best, NONE);
            Arrays.fill(now, NONE);
            for (int car = 0; car < stand.plan.cars; car++) {
                loads[car] = stand.loads[car];
                rooms[car] = stand.plan.seats - stand.guests[car];
                fears[car] = stand.fears[car];
            }
            int all = gather(stand);
            sumSets();
            search(stand.plan, stand.foot, 0, all);
        }

        private static int bit(int i) {
            return 1 << (VISITS - 1 - i);
        }

        /** The set of those that wait, of the first six, and could sit in some car. */
        private int gather(Stand stand) {
            int all = 0;
            int i = 0;
            for (int v = 0; v < stand.visits && i < VISITS; v++) {
                if (stand.place[v] == Stand.STILL_WAITS) {
                    int bit = bit(i);
                    int party = stand.partyOf[v];
                    guestsOf[bit] = stand.plan.guests[party];
                    weightOf[bit] = stand.plan.total[party];
                    fearsOf[bit] = stand.plan.fear[party];
                    earlierTwins[i] = twinsAhead(i);
                    // One with more guests than seats never gets in, and would only lengthen the search.
                    all |= guestsOf[bit] <= stand.plan.seats ? bit : 0;
                    i++;
                }
            }
            return all;
        }

        /** Those ahead that differ in nothing: of such, the first ones always get in first. */
        private int twinsAhead(int i) {
            int twins = 0;
            for (int j = 0; j < i; j++) {
                if (guestsOf[bit(j)] == guestsOf[bit(i)] && weightOf[bit(j)] == weightOf[bit(i)]
                        && fearsOf[bit(j)] == fearsOf[bit(i)]) {
                    twins |= bit(j);
                }
            }
            return twins;
        }

        /** Bit k of a set's sums is there, if some of the set have k guests together. */
        private void sumSets() {
            for (int set = 1; set < SETS; set++) {
                int rest = set & (set - 1);
                int one = set ^ rest;
                sumsOf[set] = sumsOf[rest] | sumsOf[rest] << guestsOf[one];
                if (rest != 0) {
                    guestsOf[set] = guestsOf[rest] + guestsOf[one];
                    weightOf[set] = weightOf[rest] + weightOf[one];
                    fearsOf[set] = fearsOf[rest] + fearsOf[one];
                }
            }
        }

        /** Stop is the depth too: it never goes beyond the last stop. */
        private void search(Plan plan, int foot, int stop, int left) {
            boolean top = fears[plan.opposite(foot)] > 0;
            int some = left;
            for (int n = 0; n < SETS; n++) {
                if (some == 0 || !top && fits(some, left, foot)) {
                    change(some, foot, 1);
                    mark(some, stop);
                    consider(some, stop);
                    goFurther(plan, plan.behind(foot), stop + 1, left ^ some);
                    mark(some, NONE);
                    change(some, foot, -1);
                }
                if (some == 0) {
                    break;
                }
                some = (some - 1) & left;
            }
        }

        private void goFurther(Plan plan, int foot, int stop, int left) {
            if (stop <= lastStop && left != 0 && isWorth(plan, foot, stop, left) && !leansTooFar(plan, foot)) {
                search(plan, foot, stop, left);
            }
        }

        private boolean fits(int some, int left, int foot) {
            if (guestsOf[some] > rooms[foot]) {
                return false;
            }
            for (int i = 0; i < VISITS; i++) {
                if ((some & bit(i)) != 0 && (earlierTwins[i] & (left ^ some)) != 0) {
                    return false;
                }
            }
            return true;
        }

        private void change(int some, int car, int sign) {
            nowGuests += sign * guestsOf[some];
            rooms[car] -= sign * guestsOf[some];
            loads[car] += sign * weightOf[some];
            fears[car] += sign * fearsOf[some];
        }

        private void mark(int some, int stop) {
            for (int i = 0; i < VISITS; i++) {
                if ((some & bit(i)) != 0) {
                    now[i] = stop;
                }
            }
        }

        private void consider(int some, int stop) {
            if (some == 0 || nowGuests < bestGuests) {
                return;
            }
            if (nowGuests > bestGuests || stop < bestTurns || stop == bestTurns && isEarlier(NOT_AT_ALL)) {
                bestGuests = nowGuests;
                bestTurns = stop;
                System.arraycopy(now, 0, best, 0, VISITS);
            }
        }

        /** Whether now comes ahead of the best, if those not yet in got in at the open stop. */
        private boolean isEarlier(int open) {
            for (int i = 0; i < VISITS; i++) {
                int mine = now[i] == NONE ? open : now[i];
                int other = best[i] == NONE ? NOT_AT_ALL : best[i];
                if (mine != other) {
                    return mine < other;
                }
            }
            return false;
        }

        /** Whether a load at this stop or behind it can still come ahead of the best. */
        private boolean isWorth(Plan plan, int foot, int stop, int left) {
            int most = nowGuests + Math.min(guestsOf[left], mostAhead(plan, foot, stop, left));
            if (most != bestGuests) {
                return most > bestGuests;
            }
            return stop < bestTurns || stop == bestTurns && isEarlier(stop);
        }

        /** No fewer than the guests of those left that the cars ahead can take. */
        private int mostAhead(Plan plan, int foot, int stop, int left) {
            int most = 0;
            int car = foot;
            for (int n = 0; n < plan.cars && stop + n <= lastStop; n++) {
                // Nobody leaves, so one of fear who keeps a car shut does so till the end.
                if (fears[plan.opposite(car)] == 0) {
                    most += mostWithin(rooms[car], left);
                }
                car = plan.behind(car);
            }
            return most;
        }

        private int mostWithin(int room, int left) {
            int most = room;
            while (most > 0 && (sumsOf[left] >> most & 1) == 0) {
                most--;
            }
            return most;
        }

        private boolean leansTooFar(Plan plan, int foot) {
            return Math.abs(plan.leanOf(loads, foot)) > plan.mostLean();
        }
    }

    /** BAGS and BALLAST: rows of cars that rise, so the first found has the most bags in the first cars. */
    private static final class Bagger {
        private static final int MOST = 4;

        private int fewest;
        private int most;
        private final int[] row;
        private final int[] leans;

        Bagger() {
            row = new int[Plan.MOST_CARS];
            leans = new int[(MOST + 1) * Plan.MOST_CARS];
        }

        void seek(Stand stand, int w) {
            Plan plan = stand.plan;
            Arrays.fill(row, 0);
            // Levers go as far with minus, so the worst car for w more is that with the longest lever.
            most = plan.mostLean() - w * plan.longestLever();
            for (int foot = 0; foot < plan.cars; foot++) {
                leans[foot] = stand.leanAt(foot);
            }
            fewest = NONE;
            for (int many = 0; many <= MOST && fewest == NONE; many++) {
                if (search(plan, 0, many, 0)) {
                    fewest = many;
                }
            }
        }

        private boolean search(Plan plan, int level, int many, int first) {
            if (level >= many || level >= MOST) {
                return isEven(plan, level);
            }
            for (int car = first; car < plan.cars; car++) {
                addBag(plan, level, car);
                if (search(plan, level + 1, many, car)) {
                    row[car]++;
                    return true;
                }
            }
            return false;
        }

        private void addBag(Plan plan, int level, int car) {
            int at = level * Plan.MOST_CARS;
            for (int foot = 0; foot < plan.cars; foot++) {
                leans[at + Plan.MOST_CARS + foot] = leans[at + foot] + plan.bagWeight * plan.lever(car, foot);
            }
        }

        private boolean isEven(Plan plan, int level) {
            int at = level * Plan.MOST_CARS;
            for (int foot = 0; foot < plan.cars; foot++) {
                if (Math.abs(leans[at + foot]) > most) {
                    return false;
                }
            }
            return true;
        }
    }
}
