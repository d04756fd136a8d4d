import java.util.NoSuchElementException;

/** People who wake, are watched and judged: the document's promises, numbered there. */
public final class GuiltySleep {
    public static final int NONE = -1;
    public static final int HIDDEN = -1000000;

    private static final int MOST_PEOPLE = 8;
    private static final int MOST_HOURS = 9;
    private static final int MOST_TEXTS = 4;
    private static final int LAST_NIGHT = 999;
    private static final int MOST_YEARS = 30;
    private static final int ALL_PARTS = 1000000000;
    private static final int MOST_LACKING = 99;

    private final Tape tape;
    private final Town town;
    private final Town draft;
    private final State state;
    private final State kept;
    private final Acts acts;
    private final Watches watches;
    private final LawReader reader;
    private final Law draftLaw;
    private final Mind mind;
    private final Nights nights;
    private final Lamps lamps;
    private final Timetable rows;
    private final int[] spare;
    private boolean hasKept;
    private int crimesSet;

    public GuiltySleep() {
        tape = new Tape();
        town = new Town();
        draft = new Town();
        state = new State();
        kept = new State();
        acts = new Acts();
        watches = new Watches();
        draftLaw = new Law();
        reader = new LawReader(tape, draftLaw);
        mind = new Mind(town, state);
        nights = new Nights(town, state, mind, watches);
        lamps = new Lamps(town, mind);
        rows = new Timetable(town, state, mind);
        spare = new int[MOST_HOURS + 1];
        hasKept = false;
        crimesSet = 0;
    }

    // ---- the TAPE and its TEXTS (promises 2 to 5)

    public int feed(int a, int b, int c, int d, int e) {
        int more = Tape.told(a) + Tape.told(b) + Tape.told(c) + Tape.told(d) + Tape.told(e);
        if (tape.size() + more > Tape.MOST) {
            return NONE;
        }
        tape.put(a);
        tape.put(b);
        tape.put(c);
        tape.put(d);
        tape.put(e);
        return tape.size();
    }

    public boolean end(int n) {
        return tape.keep(n);
    }

    public int fault(int sort) {
        switch (sort) {
            case 0:
                return draft.read(tape);
            case 1:
                return reader.read(draftLaw);
            case 2:
                return watches.read(tape);
            default:
                return -2;
        }
    }

    public int text(int sort) {
        int answer = NONE;
        if (sort == 0) {
            answer = settle();
        } else if (sort == 1) {
            answer = enact();
        } else if (sort == 2) {
            answer = watches.add(tape);
        }
        if (answer != NONE) {
            tape.keep(0);
        }
        return answer;
    }

    private int settle() {
        if (draft.read(tape) != NONE) {
            return NONE;
        }
        town.copyFrom(draft);
        state.begin(town);
        acts.forget();
        lamps.forget();
        hasKept = false;
        return town.crowd();
    }

    private int enact() {
        if (!mind.hasRoom() || reader.read(mind.nextLaw()) != NONE) {
            return NONE;
        }
        return mind.addNext();
    }

    // ---- what is told of the TOWN, and what holds (promises 6 to 12)

    public int rule(int what) {
        return hasTown() && what >= 0 && what < Town.RULES ? town.ruled(what) : NONE;
    }

    public int person(int person, int what) throws NoSuchElementException {
        if (!isPerson(person)) {
            throw new NoSuchElementException("no such person");
        }
        switch (what) {
            case 0:
                return state.of(person, State.GUILT);
            case 1:
                return town.told(person, Town.CONSCIENCE);
            case 2:
                return state.of(person, State.WORRY);
            case 3:
                return state.of(person, State.TIRED);
            case 4:
                return town.spouse(person);
            case 5:
                return state.of(person, State.COFFEE);
            case 6:
                return state.of(person, State.FORGED);
            case 7:
                return state.of(person, State.GAOLED);
            default:
                throw new NoSuchElementException("no such what");
        }
    }

    public boolean law(int law) {
        return mind.hold(law);
    }

    public boolean watch(int watch) {
        return watches.hold(watch);
    }

    public int watched(int watch, int hour) {
        if (!watches.has(watch) || hour < 0 || hour >= MOST_HOURS) {
            return HIDDEN;
        }
        return watches.toldAt(watch, hour);
    }

    public boolean crimes(int v) {
        if (v < 0 || v > 9 || v == crimesSet) {
            return false;
        }
        crimesSet = v;
        return true;
    }

    public int wakes(int person, int hour) {
        return isPerson(person) && isHour(hour) ? mind.wakesNow(person, hour) : NONE;
    }

    // ---- ACTS (promises 13 to 20)

    public int deed(int person, int n) {
        if (!isPerson(person) || n < -9 || n > 9 || n == 0) {
            return NONE;
        }
        int guilt = state.of(person, State.GUILT) + n;
        if (guilt < 0 || guilt > 9) {
            return NONE;
        }
        acts.keep(state);
        state.set(person, State.GUILT, guilt);
        return guilt;
    }

    public boolean coffee(int person) {
        return onceAhead(person, State.COFFEE);
    }

    public boolean forge(int person) {
        return onceAhead(person, State.FORGED);
    }

    /** COFFEE and forged LAMPS alike: once ahead of a NIGHT. */
    private boolean onceAhead(int person, int what) {
        if (!isPerson(person) || state.of(person, what) != 0) {
            return false;
        }
        acts.keep(state);
        state.set(person, what, 1);
        return true;
    }

    public int worry(int person, int v) {
        if (!isPerson(person) || v < 0 || v > 9) {
            return NONE;
        }
        int was = state.of(person, State.WORRY);
        if (was == v) {
            return NONE;
        }
        acts.keep(state);
        state.set(person, State.WORRY, v);
        return was;
    }

    public int night(long seed) {
        if (!hasTown() || state.now() >= LAST_NIGHT) {
            return NONE;
        }
        acts.keep(state);
        nights.sow(seed);
        nights.pass();
        return state.now();
    }

    public int judge(int person) {
        if (!isPerson(person) || state.of(person, State.GAOLED) != 0 || state.booksOf(person) == 0) {
            return NONE;
        }
        acts.keep(state);
        int points = mind.caseOf(person, mind.holding());
        boolean gaoled = points >= town.ruled(Town.POINTS);
        boolean guilty = state.of(person, State.GUILT) > 0;
        state.decide(person, gaoled, guilty == gaoled);
        state.writeLog(person, gaoled, points);
        state.strike(person);
        return gaoled ? 1 : 0;
    }

    public int years(int n, long seed) {
        if (!hasTown() || n < 1 || n > MOST_YEARS || state.now() > LAST_NIGHT - n) {
            return NONE;
        }
        nights.sow(seed);
        for (int i = 0; i < n; i++) {
            acts.keep(state);
            nights.year(crimesSet);
        }
        return state.now();
    }

    public int undo() {
        return acts.takeBack(state);
    }

    // ---- the LOG, THE BOOK and the CASES (promises 21 to 23)

    public int log(int i, int what) {
        if (i < 0 || i >= state.logs() || what < 0 || what > 2) {
            return HIDDEN;
        }
        int row = state.logAt(i);
        if (what == 0) {
            return State.whoOf(row);
        }
        return what == 1 ? State.gaoledOf(row) : State.pointsOf(row);
    }

    public int book(int i, int what) {
        if (i < 0 || i >= state.books()) {
            return NONE;
        }
        int row = state.bookAt(state.books() - 1 - i);
        switch (what) {
            case 0:
                return State.nightOf(row);
            case 1:
                return State.hourOf(row);
            case 2:
                return State.personOf(row);
            case 3:
                return State.lampOf(row);
            case 4:
                return State.tiredOf(row);
            default:
                return NONE;
        }
    }

    public int points(int person) {
        return isPerson(person) ? mind.caseOf(person, mind.holding()) : HIDDEN;
    }

    // ---- odds (promises 24 to 27, 41, 42)

    public int sleeps(int person) {
        return isPerson(person) ? partsAsleep(person) : NONE;
    }

    private int partsAsleep(int person) {
        long left = ALL_PARTS;
        for (int hour = 0; hour < town.hours(); hour++) {
            left = left * (10 - mind.wakesNow(person, hour)) / 10;
        }
        return (int) left;
    }

    public int awake(int person, int n) {
        if (!isPerson(person) || n < 0 || n > MOST_HOURS) {
            return NONE;
        }
        sharePartsOf(person);
        int together = 0;
        for (int many = n; many <= MOST_HOURS; many++) {
            together += spare[many];
        }
        return together;
    }

    private void sharePartsOf(int person) {
        for (int many = 0; many <= MOST_HOURS; many++) {
            spare[many] = 0;
        }
        spare[0] = ALL_PARTS;
        for (int hour = 0; hour < town.hours(); hour++) {
            int tenths = mind.wakesNow(person, hour);
            // the most first, so that nobody wakes twice in one HOUR
            for (int many = hour; many >= 0; many--) {
                int moved = (int) ((long) spare[many] * tenths / 10);
                spare[many] -= moved;
                spare[many + 1] += moved;
            }
        }
    }

    public int seem(int person, int watch) {
        if (!isPerson(person) || !watches.has(watch)) {
            return NONE;
        }
        int best = NONE;
        int dark = mind.caseOf(person, mind.holding());
        for (int hour = 0; hour < town.hours(); hour++) {
            boolean seen = watches.toldAt(watch, hour) == person;
            int unlit = seen ? mind.pointsNow(person, hour, 0) : 0;
            spare[hour] = seen ? mind.pointsNow(person, hour, 1) - unlit : 0;
            dark += unlit;
        }
        for (int set = 0; set < 1 << town.hours(); set++) {
            boolean fewer = best == NONE || Integer.bitCount(set) < Integer.bitCount(best);
            if (fewer && dark + changeBy(set) < town.ruled(Town.POINTS)) {
                best = set;
            }
        }
        return best;
    }

    /** By how much the LAMPS of a set change the CASE; seem() has put the changes into spare. */
    private int changeBy(int set) {
        int together = 0;
        for (int hour = 0; hour < MOST_HOURS; hour++) {
            if ((set >> hour & 1) == 1) {
                together += spare[hour];
            }
        }
        return together;
    }

    public int tells(int person, int what) {
        if (!isPerson(person) || what < 0 || what > 1) {
            return NONE;
        }
        int best = 0;
        int most = NONE;
        for (int hour = 0; hour < town.hours(); hour++) {
            int apart = Math.abs(mind.wakesNow(person, hour) - mind.wakesWith(0, person, hour));
            if (apart > most) {
                most = apart;
                best = hour;
            }
        }
        return what == 0 ? best : most;
    }

    public int meet(int one, int other) {
        if (!isPerson(one) || !isPerson(other) || one == other) {
            return NONE;
        }
        long left = ALL_PARTS;
        for (int hour = 0; hour < town.hours(); hour++) {
            left -= left * mind.wakesNow(one, hour) * mind.wakesNow(other, hour) / 100;
        }
        return (int) (ALL_PARTS - left);
    }

    public int needs(int person, int hour, int v) {
        if (!isPerson(person) || !isHour(hour) || v < 0 || v > 10) {
            return NONE;
        }
        for (int worried = 0; worried <= 9; worried++) {
            if (mind.wakesIf(person, hour, state.of(person, State.GUILT), worried) >= v) {
                return worried;
            }
        }
        return NONE;
    }

    // ---- LAMPS told, CANDLES, TIMETABLES (promises 28 to 30, 33, 34)

    public int lamp(int person, int hour, boolean lit) {
        return isPerson(person) && isHour(hour) ? lamps.add(person, hour, lit) : NONE;
    }

    public int who(int x, int what) {
        if (!hasTown() || x < 1 || x > 9 || what < 0 || what > 2) {
            return NONE;
        }
        lamps.weigh(x);
        if (what == 0) {
            return lamps.likeliestOne();
        }
        return what == 1 ? lamps.sureness() : lamps.nextLook(x);
    }

    public int timetable(int n, int what) {
        if (!hasTown() || n < 1 || n > 2 || what < 0 || what > 1) {
            return NONE;
        }
        int most = rows.fill(n);
        return most == NONE || what == 1 ? most : rows.leastRow();
    }

    public int candle(int person, int n, int i) {
        if (!isPerson(person) || n < 0 || n > MOST_HOURS || i < NONE) {
            return NONE;
        }
        lamps.light(person);
        int many = 0;
        for (int set = 0; set < 1 << town.hours(); set++) {
            if (lamps.canBurn(set, n)) {
                if (many == i) {
                    return set;
                }
                many++;
            }
        }
        return i == NONE ? many : NONE;
    }

    public int likeliest(int person, int n) {
        if (!isPerson(person) || n < 0 || n > MOST_HOURS) {
            return NONE;
        }
        lamps.light(person);
        int best = NONE;
        long most = 0;
        for (int set = 0; set < 1 << town.hours(); set++) {
            if (lamps.canBurn(set, n) && (best == NONE || lamps.oddsOf(set) > most)) {
                best = set;
                most = lamps.oddsOf(set);
            }
        }
        return best;
    }

    // ---- COUPLES (promises 31, 32)

    public int couple(int person, int x, int y, int what) {
        if (!isMarried(person) || !isBit(x) || !isBit(y) || !isBit(what)) {
            return HIDDEN;
        }
        int one = what == 0 ? person : town.spouse(person);
        int points = mind.caseOf(one, mind.holding());
        return what == 0 ? share(points, x, y) : share(points, y, x);
    }

    private static int share(int points, int own, int others) {
        int has = -(Math.max(points, 0) / 2);
        if (others == 1) {
            return has - 4;
        }
        return own == 1 ? has + 2 : has + 1;
    }

    public int rests(int person, int i) {
        if (!isMarried(person) || i < NONE) {
            return NONE;
        }
        int first = mind.caseOf(person, mind.holding());
        int second = mind.caseOf(town.spouse(person), mind.holding());
        int many = 0;
        for (int pair = 0; pair < 4; pair++) {
            int x = pair / 2;
            int y = pair % 2;
            if (share(first, x, y) >= share(first, 1 - x, y) && share(second, y, x) >= share(second, 1 - y, x)) {
                if (many == i) {
                    return 10 * x + y;
                }
                many++;
            }
        }
        return i == NONE ? many : NONE;
    }

    // ---- LAWS compared, and who is what (promises 35 to 40, 43)

    public int wronged(int law) {
        return hasTown() && (law == NONE || mind.has(law)) ? wrongedBy(law) : NONE;
    }

    private int wrongedBy(int law) {
        int many = 0;
        for (int person = 0; person < town.crowd(); person++) {
            boolean guilty = state.of(person, State.GUILT) > 0;
            if (state.booksOf(person) > 0 && guilty != wouldBeGuilty(person, law)) {
                many++;
            }
        }
        return many;
    }

    private boolean wouldBeGuilty(int person, int law) {
        return mind.caseOf(person, law) >= town.ruled(Town.POINTS);
    }

    public int better() {
        if (!hasTown()) {
            return NONE;
        }
        int best = NONE;
        int fewest = 0;
        for (int law = 0; law < mind.laws(); law++) {
            int many = wrongedBy(law);
            if (best == NONE || many < fewest) {
                best = law;
                fewest = many;
            }
        }
        return best;
    }

    public int most(int what) {
        if (!hasTown() || what < 0 || what > 1) {
            return NONE;
        }
        int best = 0;
        int most = NONE;
        for (int person = 0; person < town.crowd(); person++) {
            int has = what == 0 ? state.of(person, State.TIRED) : partsAsleep(person);
            if (has > most) {
                most = has;
                best = person;
            }
        }
        return best;
    }

    public int people(int what) {
        if (!hasTown() || what < 0 || what > 2) {
            return NONE;
        }
        int bits = 0;
        for (int person = 0; person < town.crowd(); person++) {
            boolean is;
            if (what == 0) {
                is = state.of(person, State.GAOLED) == 0;
            } else if (what == 1) {
                is = state.of(person, State.GUILT) == 0;
            } else {
                is = wouldBeGuilty(person, mind.holding());
            }
            bits |= is ? 1 << person : 0;
        }
        return bits;
    }

    public int cries(int hour) {
        if (!hasTown() || !isHour(hour)) {
            return NONE;
        }
        int together = 0;
        for (int person = 0; person < town.crowd(); person++) {
            together += mind.wakesNow(person, hour);
        }
        return together;
    }

    public int booked(int person, int what) {
        if (!isPerson(person) || what < 0 || what > 1) {
            return NONE;
        }
        return what == 0 ? state.booksOf(person) : lacking(person);
    }

    private int lacking(int person) {
        int points = mind.caseOf(person, mind.holding());
        int more = mind.pointsNow(person, 0, 0);
        for (int many = 0; many <= MOST_LACKING; many++) {
            if (points + many * more >= town.ruled(Town.POINTS)) {
                return many;
            }
        }
        return NONE;
    }

    public int line() {
        if (!hasTown()) {
            return NONE;
        }
        for (int person = 0; person < town.crowd(); person++) {
            spare[person] = mind.caseOf(person, mind.holding());
        }
        int digits = 0;
        int gone = 0;
        for (int place = 0; place < town.crowd(); place++) {
            int next = firstInLine(gone);
            gone |= 1 << next;
            digits = digits * 10 + next;
        }
        return digits;
    }

    /** Of those who are not gone yet the one with the most; line() has put the CASES into spare. */
    private int firstInLine(int gone) {
        int best = NONE;
        for (int person = 0; person < town.crowd(); person++) {
            boolean waits = (gone >> person & 1) == 0;
            if (waits && (best == NONE || spare[person] > spare[best])) {
                best = person;
            }
        }
        return best == NONE ? 0 : best;
    }

    // ---- IMAGES and counts (promises 44 to 46)

    public int image() {
        if (!hasTown()) {
            return NONE;
        }
        kept.copyFrom(state);
        hasKept = true;
        return state.now();
    }

    public int back() {
        if (!hasKept) {
            return NONE;
        }
        state.copyFrom(kept);
        acts.forget();
        return state.now();
    }

    public int count(int what) {
        switch (what) {
            case 0:
                return town.crowd();
            case 1:
                return mind.laws();
            case 2:
                return watches.many();
            case 3:
                return tape.size();
            case 4:
                return mind.holding();
            case 5:
                return watches.holding();
            case 6:
                return state.now();
            case 7:
                return state.rights();
            case 8:
                return state.wrongs();
            case 9:
                return crimesSet;
            case 10:
                return lamps.many();
            case 11:
                return state.books();
            case 12:
                return state.logs();
            case 13:
                return acts.many();
            default:
                return HIDDEN;
        }
    }

    // ---- what may be asked for

    private boolean hasTown() {
        return town.crowd() > 0;
    }

    private boolean isPerson(int person) {
        return person >= 0 && person < town.crowd();
    }

    private boolean isHour(int hour) {
        return hour >= 0 && hour < town.hours();
    }

    private boolean isMarried(int person) {
        return isPerson(person) && town.spouse(person) != NONE;
    }

    private static boolean isBit(int v) {
        return v == 0 || v == 1;
    }

    /** The TAPE, and the place at which it is being read. */
    private static final class Tape {
        static final int MOST = 240;
        static final int END = -1;

        private final int[] bytes = new int[MOST];
        private int length;
        private int at;
        private int fault;

        int size() {
            return length;
        }

        /** How many bytes of a number are not 0. */
        static int told(int number) {
            int many = 0;
            for (int shift = 24; shift >= 0; shift -= 8) {
                many += (number >>> shift & 255) == 0 ? 0 : 1;
            }
            return many;
        }

        void put(int number) {
            for (int shift = 24; shift >= 0; shift -= 8) {
                int value = number >>> shift & 255;
                if (value != 0 && length < MOST) {
                    bytes[length] = value;
                    length++;
                }
            }
        }

        boolean keep(int n) {
            if (n < 0 || n > length) {
                return false;
            }
            length = n;
            return true;
        }

        void rewind() {
            at = 0;
            fault = NONE;
        }

        int firstFault() {
            return fault;
        }

        /** The next sign behind blanks, END behind the last. */
        int look() {
            while (at < length && bytes[at] == ' ') {
                at++;
            }
            return at < length ? bytes[at] : END;
        }

        void step() {
            if (at < length) {
                at++;
            }
        }

        boolean take(int sign) {
            if (look() != sign) {
                return fail();
            }
            step();
            return true;
        }

        /** The reading fails at the place where it stands: false, for its callers to hand on. */
        boolean fail() {
            if (fault == NONE) {
                fault = at;
            }
            return false;
        }

        /** The reading fails at the last digit of the number just read. */
        void failAtDigit() {
            if (fault == NONE) {
                fault = Math.max(at - 1, 0);
            }
        }

        static boolean isDigit(int sign) {
            return sign >= '0' && sign <= '9';
        }

        /** A number of at most so many digits; NONE: it failed. */
        int number(int digits) {
            int value = 0;
            if (!isDigit(look())) {
                fail();
                return NONE;
            }
            for (int i = 0; i < digits && at < length && isDigit(bytes[at]); i++) {
                value = value * 10 + bytes[at] - '0';
                at++;
            }
            if (at < length && isDigit(bytes[at])) {
                fail();
                return NONE;
            }
            return value;
        }
    }

    /** What a TOWN's TEXT tells. */
    private static final class Town {
        static final int HOURS = 0;
        static final int POINTS = 1;
        static final int COFFEE = 2;
        static final int RULES = 3;
        static final int GUILT = 0;
        static final int CONSCIENCE = 1;
        static final int WORRY = 2;
        static final int TIRED = 3;
        static final int MARRIED = 4;
        static final int TOLD = 5;
        static final int SINGLE = 8;

        private static final String RULE_LETTERS = "hkc";
        private static final String PERSON_LETTERS = "gcwtm";
        private static final int[] RULE_LEAST = {1, 1, 0};
        private static final int[] RULE_MOST = {9, 30, 9};
        private static final int[] RULE_PLAIN = {6, 4, 3};
        private static final int[] PERSON_LEAST = {0, 0, 0, 0, 0};
        private static final int[] PERSON_MOST = {9, 9, 9, 9, 8};
        private static final int[] PERSON_PLAIN = {0, 5, 1, 0, 8};

        private final int[] rules = new int[RULES];
        private final int[] told = new int[MOST_PEOPLE * TOLD];
        private int people;
        private boolean rulesTold;

        int crowd() {
            return people;
        }

        int hours() {
            return rules[HOURS];
        }

        int ruled(int what) {
            return rules[what];
        }

        int told(int person, int what) {
            return told[person * TOLD + what];
        }

        int spouse(int person) {
            int other = told[person * TOLD + MARRIED];
            return other < people ? other : NONE;
        }

        void copyFrom(Town other) {
            System.arraycopy(other.rules, 0, rules, 0, RULES);
            System.arraycopy(other.told, 0, told, 0, told.length);
            people = other.people;
        }

        /** Reads the TAPE as a TOWN: the FAULT, or NONE. */
        int read(Tape tape) {
            tape.rewind();
            people = 0;
            rulesTold = false;
            System.arraycopy(RULE_PLAIN, 0, rules, 0, RULES);
            boolean more = readClause(tape);
            for (int i = 0; i < Tape.MOST && more && tape.look() == ';'; i++) {
                tape.step();
                more = readClause(tape);
            }
            if (more && (tape.look() != Tape.END || people == 0 || !couplesAgree())) {
                tape.fail();
            }
            return tape.firstFault();
        }

        private boolean readClause(Tape tape) {
            int sign = tape.look();
            if (sign == 's' && !rulesTold) {
                tape.step();
                rulesTold = true;
                return readItems(tape, RULE_LETTERS, RULE_LEAST, RULE_MOST, rules, 0);
            }
            if (sign == 'p' && people < MOST_PEOPLE) {
                tape.step();
                int from = people * TOLD;
                people++;
                System.arraycopy(PERSON_PLAIN, 0, told, from, TOLD);
                return readItems(tape, PERSON_LETTERS, PERSON_LEAST, PERSON_MOST, told, from);
            }
            return tape.fail();
        }

        /** Reads ITEMS, each letter once at most, into a row from a place on. */
        private static boolean readItems(Tape tape, String letters, int[] least, int[] most, int[] row, int from) {
            int seen = 0;
            for (int i = 0; i < letters.length(); i++) {
                int which = letterAt(tape, letters);
                if (which == NONE || (seen >> which & 1) == 1) {
                    return endsClause(tape);
                }
                seen |= 1 << which;
                int value = readItem(tape, least[which], most[which]);
                if (value == NONE) {
                    return false;
                }
                row[from + which] = value;
            }
            return endsClause(tape);
        }

        private static int letterAt(Tape tape, String letters) {
            int sign = tape.look();
            return sign == Tape.END ? NONE : letters.indexOf((char) sign);
        }

        private static int readItem(Tape tape, int least, int most) {
            tape.step();
            int value = tape.number(2);
            if (value != NONE && (value < least || value > most)) {
                tape.failAtDigit();
                return NONE;
            }
            return value;
        }

        private static boolean endsClause(Tape tape) {
            int sign = tape.look();
            return sign == ';' || sign == Tape.END || tape.fail();
        }

        private boolean couplesAgree() {
            for (int person = 0; person < people; person++) {
                int other = told[person * TOLD + MARRIED];
                if (other != SINGLE) {
                    if (other == person || other >= people || told[other * TOLD + MARRIED] != person) {
                        return false;
                    }
                }
            }
            return true;
        }
    }

    /**
     * A LAW, as a row in the order in which it is reckoned, operands ahead of their sign: numbers as they
     * are, letters from FIRST_LETTER on, signs as their bytes below 0.
     */
    private static final class Law {
        static final int LETTERS = 6;
        static final int FIRST_LETTER = 10000;

        private static final int MOST_CLAUSES = 61;
        private static final int DEEPEST = 32;
        private static final int LARGEST = 1000000;

        private final int[] code = new int[Tape.MOST];
        private final int[] starts = new int[MOST_CLAUSES];
        private final int[] sums = new int[MOST_CLAUSES];
        private final int[] kinds = new int[MOST_CLAUSES];
        private final int[] stack = new int[DEEPEST];
        private int length;
        private int clauses;

        void clear() {
            length = 0;
            clauses = 0;
        }

        void open(int kind) {
            if (clauses < MOST_CLAUSES) {
                kinds[clauses] = kind;
                starts[clauses] = length;
                sums[clauses] = length;
                clauses++;
            }
        }

        /** What was put since the CLAUSE was opened is its CONDITION. */
        void endCondition() {
            if (clauses > 0) {
                sums[clauses - 1] = length;
            }
        }

        void put(int sign) {
            if (length < Tape.MOST) {
                code[length] = sign;
                length++;
            }
        }

        /** WORTH for y or v. */
        int worth(int kind, int[] letters) {
            for (int i = 0; i < clauses; i++) {
                if (kinds[i] == kind) {
                    boolean holds = sums[i] == starts[i] || run(starts[i], sums[i], letters) != 0;
                    if (holds) {
                        return run(sums[i], i + 1 < clauses ? starts[i + 1] : length, letters);
                    }
                }
            }
            return 0;
        }

        private int run(int from, int to, int[] letters) {
            int top = 0;
            for (int i = from; i < to; i++) {
                int sign = code[i];
                if (sign >= 0) {
                    if (top < DEEPEST) {
                        stack[top] = sign < FIRST_LETTER ? sign : letters[sign - FIRST_LETTER];
                        top++;
                    }
                } else if (sign == -'!') {
                    if (top > 0) {
                        stack[top - 1] = 1 - stack[top - 1];
                    }
                } else if (top > 1) {
                    top--;
                    stack[top - 1] = reckon(-sign, stack[top - 1], stack[top]);
                }
            }
            return top > 0 ? stack[0] : 0;
        }

        private static int reckon(int sign, int a, int b) {
            long value;
            switch (sign) {
                case '+':
                    value = (long) a + b;
                    break;
                case '-':
                    value = (long) a - b;
                    break;
                case '*':
                    value = (long) a * b;
                    break;
                case '/':
                    value = b == 0 ? 0 : a / b;
                    break;
                case '=':
                    return a == b ? 1 : 0;
                case '<':
                    return a < b ? 1 : 0;
                case '>':
                    return a > b ? 1 : 0;
                case '&':
                    return a & b;
                default:
                    return a | b;
            }
            if (value > LARGEST) {
                return LARGEST;
            }
            return value < -LARGEST ? -LARGEST : (int) value;
        }
    }

    /** Reads the TAPE as a LAW. */
    private static final class LawReader {
        private static final String LETTERS = "gcwtha";
        private static final int DEEPEST = 6;

        private final Tape tape;
        private Law law;

        LawReader(Tape tape, Law law) {
            this.tape = tape;
            this.law = law;
        }

        /** The FAULT, or NONE; what is read goes into the LAW. */
        int read(Law into) {
            law = into;
            law.clear();
            tape.rewind();
            boolean more = readClause();
            for (int i = 0; i < Tape.MOST && more && tape.look() == ';'; i++) {
                tape.step();
                more = readClause();
            }
            if (more && tape.look() != Tape.END) {
                tape.fail();
            }
            return tape.firstFault();
        }

        private boolean readClause() {
            int kind = tape.look();
            if (kind != 'y' && kind != 'v') {
                return tape.fail();
            }
            tape.step();
            if (!tape.take(':')) {
                return false;
            }
            law.open(kind);
            int sign = tape.look();
            if (sign == '!' || sign == '(') {
                return readCondition(0) && readRuling();
            }
            if (!readSum(0)) {
                return false;
            }
            return !compares(tape.look()) || readComparison(0) && readTail(0) && readRuling();
        }

        /** The SUM behind a CONDITION. */
        private boolean readRuling() {
            if (!tape.take('?')) {
                return false;
            }
            law.endCondition();
            return readSum(0);
        }

        private boolean readCondition(int depth) {
            return readUnit(depth) && readTail(depth);
        }

        /** What may follow the first UNIT of a CONDITION. */
        private boolean readTail(int depth) {
            boolean more = readTruthTail(depth);
            for (int i = 0; i < Tape.MOST && more && tape.look() == '|'; i++) {
                tape.step();
                more = readUnit(depth) && readTruthTail(depth);
                law.put(-'|');
            }
            return more;
        }

        private boolean readTruthTail(int depth) {
            boolean more = true;
            for (int i = 0; i < Tape.MOST && more && tape.look() == '&'; i++) {
                tape.step();
                more = readUnit(depth);
                law.put(-'&');
            }
            return more;
        }

        private boolean readUnit(int depth) {
            int sign = tape.look();
            if (sign != '!' && sign != '(') {
                return readSum(depth) && readComparison(depth);
            }
            if (depth >= DEEPEST) {
                return tape.fail();
            }
            tape.step();
            if (sign == '(') {
                return readCondition(depth + 1) && tape.take(')');
            }
            boolean read = readUnit(depth + 1);
            law.put(-'!');
            return read;
        }

        private static boolean compares(int sign) {
            return sign == '=' || sign == '<' || sign == '>';
        }

        private boolean readComparison(int depth) {
            int sign = tape.look();
            if (!compares(sign)) {
                return tape.fail();
            }
            tape.step();
            boolean read = readSum(depth);
            law.put(-sign);
            return read;
        }

        private boolean readSum(int depth) {
            boolean more = readTerm(depth);
            for (int i = 0; i < Tape.MOST && more; i++) {
                int sign = tape.look();
                if (sign != '+' && sign != '-') {
                    return true;
                }
                tape.step();
                more = readTerm(depth);
                law.put(-sign);
            }
            return more;
        }

        private boolean readTerm(int depth) {
            boolean more = readAtom(depth);
            for (int i = 0; i < Tape.MOST && more; i++) {
                int sign = tape.look();
                if (sign != '*' && sign != '/') {
                    return true;
                }
                tape.step();
                more = readAtom(depth);
                law.put(-sign);
            }
            return more;
        }

        private boolean readAtom(int depth) {
            int sign = tape.look();
            if (sign == Tape.END) {
                return tape.fail();
            }
            if (sign == '[') {
                if (depth >= DEEPEST) {
                    return tape.fail();
                }
                tape.step();
                return readSum(depth + 1) && tape.take(']');
            }
            int letter = LETTERS.indexOf((char) sign);
            if (letter >= 0) {
                tape.step();
                law.put(Law.FIRST_LETTER + letter);
                return true;
            }
            int value = tape.number(4);
            if (value == NONE) {
                return false;
            }
            law.put(value);
            return true;
        }
    }

    /** WATCHES, and the one that holds. */
    private static final class Watches {
        private final int[] digits = new int[MOST_TEXTS * MOST_HOURS];
        private final int[] row = new int[MOST_HOURS];
        private int many;
        private int holding = NONE;

        int many() {
            return many;
        }

        int holding() {
            return holding;
        }

        boolean has(int watch) {
            return watch >= 0 && watch < many;
        }

        boolean hold(int watch) {
            if (watch != NONE && !has(watch)) {
                return false;
            }
            holding = watch;
            return true;
        }

        /** Whom the TEXT tells, whether there is such a PERSON or not. */
        int toldAt(int watch, int hour) {
            return digits[watch * MOST_HOURS + hour];
        }

        /** Who is watched by the WATCH that holds. */
        int seenAt(int hour) {
            return holding == NONE ? NONE : toldAt(holding, hour);
        }

        /** Reads the TAPE as a WATCH: the FAULT, or NONE. */
        int read(Tape tape) {
            tape.rewind();
            for (int hour = 0; hour < MOST_HOURS; hour++) {
                row[hour] = NONE;
            }
            int hours = 0;
            while (hours < MOST_HOURS && Tape.isDigit(tape.look())) {
                int told = tape.look() - '0';
                row[hours] = told == 9 ? NONE : told;
                hours++;
                tape.step();
            }
            if (hours == 0 || tape.look() != Tape.END) {
                tape.fail();
            }
            return tape.firstFault();
        }

        int add(Tape tape) {
            if (many >= MOST_TEXTS || read(tape) != NONE) {
                return NONE;
            }
            System.arraycopy(row, 0, digits, many * MOST_HOURS, MOST_HOURS);
            many++;
            return many - 1;
        }
    }

    /** All that an IMAGE keeps, in one row of cells, so that a copy is one move. */
    private static final class State {
        static final int GUILT = 0;
        static final int WORRY = 1;
        static final int TIRED = 2;
        static final int COFFEE = 3;
        static final int FORGED = 4;
        static final int GAOLED = 5;

        private static final int KEPT = 6;
        private static final int LONGEST = 60;
        private static final int NIGHT = MOST_PEOPLE * KEPT;
        private static final int RIGHT = NIGHT + 1;
        private static final int WRONG = NIGHT + 2;
        private static final int BOOKS = NIGHT + 3;
        private static final int LOGS = NIGHT + 4;
        private static final int BOOK = NIGHT + 5;
        private static final int LOG = BOOK + LONGEST;
        private static final int CELLS = LOG + LONGEST;
        /** Makes a CASE that is below 0 fit into the bits of a row. */
        private static final int LIFT = 1000;

        private final int[] cells = new int[CELLS];

        void copyFrom(State other) {
            System.arraycopy(other.cells, 0, cells, 0, CELLS);
        }

        void begin(Town town) {
            for (int i = 0; i < CELLS; i++) {
                cells[i] = 0;
            }
            for (int person = 0; person < town.crowd(); person++) {
                set(person, GUILT, town.told(person, Town.GUILT));
                set(person, WORRY, town.told(person, Town.WORRY));
                set(person, TIRED, town.told(person, Town.TIRED));
            }
        }

        int of(int person, int what) {
            return cells[person * KEPT + what];
        }

        void set(int person, int what, int value) {
            cells[person * KEPT + what] = value;
        }

        int now() {
            return cells[NIGHT];
        }

        int rights() {
            return cells[RIGHT];
        }

        int wrongs() {
            return cells[WRONG];
        }

        int books() {
            return cells[BOOKS];
        }

        int logs() {
            return cells[LOGS];
        }

        void nextNight() {
            cells[NIGHT]++;
        }

        void decide(int person, boolean gaoled, boolean right) {
            set(person, GAOLED, gaoled ? 1 : 0);
            cells[right ? RIGHT : WRONG]++;
        }

        /** Puts a row behind the others of a list; the oldest goes, if it is full. */
        private void append(int list, int size, int row) {
            if (cells[size] >= LONGEST) {
                System.arraycopy(cells, list + 1, cells, list, LONGEST - 1);
                cells[size] = LONGEST - 1;
            }
            cells[list + cells[size]] = row;
            cells[size]++;
        }

        void writeBook(int hour, int person, boolean lit) {
            int row = now() | hour << 10 | person << 14 | (lit ? 1 : 0) << 17 | of(person, TIRED) << 18;
            append(BOOK, BOOKS, row);
        }

        void writeLog(int person, boolean gaoled, int points) {
            append(LOG, LOGS, person | (gaoled ? 1 : 0) << 3 | (points + LIFT) << 4);
        }

        /** A row of THE BOOK, the oldest first. */
        int bookAt(int i) {
            return cells[BOOK + i];
        }

        /** A row of the LOG, the latest first. */
        int logAt(int i) {
            return cells[LOG + logs() - 1 - i];
        }

        static int nightOf(int row) {
            return row & 1023;
        }

        static int hourOf(int row) {
            return row >> 10 & 15;
        }

        static int personOf(int row) {
            return row >> 14 & 7;
        }

        static int lampOf(int row) {
            return row >> 17 & 1;
        }

        static int tiredOf(int row) {
            return row >> 18 & 15;
        }

        static int whoOf(int row) {
            return row & 7;
        }

        static int gaoledOf(int row) {
            return row >> 3 & 1;
        }

        static int pointsOf(int row) {
            return (row >> 4) - LIFT;
        }

        int booksOf(int person) {
            int many = 0;
            for (int i = 0; i < books(); i++) {
                many += personOf(bookAt(i)) == person ? 1 : 0;
            }
            return many;
        }

        /** The HOURS of a PERSON leave THE BOOK. */
        void strike(int person) {
            int left = 0;
            for (int i = 0; i < books(); i++) {
                int row = bookAt(i);
                if (personOf(row) != person) {
                    cells[BOOK + left] = row;
                    left++;
                }
            }
            cells[BOOKS] = left;
        }
    }

    /** The latest ACTS: how all was ahead of each. */
    private static final class Acts {
        private static final int MOST = 40;

        private final State[] rows = new State[MOST];
        private int next;
        private int many;

        Acts() {
            for (int i = 0; i < MOST; i++) {
                rows[i] = new State();
            }
        }

        int many() {
            return many;
        }

        void forget() {
            many = 0;
        }

        void keep(State state) {
            rows[next].copyFrom(state);
            next = (next + 1) % MOST;
            many = Math.min(many + 1, MOST);
        }

        int takeBack(State state) {
            if (many == 0) {
                return NONE;
            }
            next = (next + MOST - 1) % MOST;
            state.copyFrom(rows[next]);
            many--;
            return many;
        }
    }

    /** LAWS: who is awake, and what a watched HOUR counts. */
    private static final class Mind {
        private final Town town;
        private final State state;
        private final Law[] texts = new Law[MOST_TEXTS];
        private final int[] letters = new int[Law.LETTERS];
        private int many;
        private int holding = NONE;

        Mind(Town town, State state) {
            this.town = town;
            this.state = state;
            for (int i = 0; i < MOST_TEXTS; i++) {
                texts[i] = new Law();
            }
        }

        int laws() {
            return many;
        }

        int holding() {
            return holding;
        }

        boolean has(int law) {
            return law >= 0 && law < many;
        }

        boolean hold(int law) {
            if (law != NONE && !has(law)) {
                return false;
            }
            holding = law;
            return true;
        }

        boolean hasRoom() {
            return many < MOST_TEXTS;
        }

        /** Where the next LAW is read into; it counts when addNext() says so. */
        Law nextLaw() {
            return texts[hasRoom() ? many : MOST_TEXTS - 1];
        }

        int addNext() {
            if (!hasRoom()) {
                return NONE;
            }
            many++;
            return many - 1;
        }

        int wakesNow(int person, int hour) {
            return wakesIf(person, hour, state.of(person, State.GUILT), state.of(person, State.WORRY));
        }

        int wakesWith(int guilt, int person, int hour) {
            return wakesIf(person, hour, guilt, state.of(person, State.WORRY));
        }

        /** WAKES of a PERSON, if it had such GUILT and WORRY. */
        int wakesIf(int person, int hour, int guilt, int worried) {
            int conscience = town.told(person, Town.CONSCIENCE);
            int tired = state.of(person, State.TIRED);
            int worth = conscience + worried - guilt - tired;
            if (has(holding)) {
                spell(guilt, conscience, worried, tired, hour, 0);
                worth = texts[holding].worth('y', letters);
            }
            if (state.of(person, State.COFFEE) != 0) {
                worth += town.ruled(Town.COFFEE);
            }
            return Math.max(0, Math.min(worth, 10));
        }

        private void spell(int g, int c, int w, int t, int h, int a) {
            letters[0] = g;
            letters[1] = c;
            letters[2] = w;
            letters[3] = t;
            letters[4] = h;
            letters[5] = a;
        }

        /** POINTS of a watched HOUR of a PERSON by a LAW (NONE: without). */
        private int pointsBy(int law, int person, int hour, int lit, int tired) {
            if (!has(law)) {
                return lit == 0 ? 1 : -1;
            }
            spell(state.of(person, State.GUILT), town.told(person, Town.CONSCIENCE),
                    state.of(person, State.WORRY), tired, hour, lit);
            int worth = texts[law].worth('v', letters);
            return Math.max(-9, Math.min(worth, 9));
        }

        /** POINTS of one HOUR more, as the PERSON is now. */
        int pointsNow(int person, int hour, int lit) {
            return pointsBy(holding, person, hour, lit, state.of(person, State.TIRED));
        }

        int caseOf(int person, int law) {
            int together = 0;
            for (int i = 0; i < state.books(); i++) {
                int row = state.bookAt(i);
                if (State.personOf(row) == person) {
                    together += pointsBy(law, person, State.hourOf(row), State.lampOf(row), State.tiredOf(row));
                }
            }
            return together;
        }
    }

    /** NIGHTS and YEARS by draws. */
    private static final class Nights {
        private static final long TIMES = 6364136223846793005L;
        private static final long MORE = 1442695040888963407L;

        private final Town town;
        private final State state;
        private final Mind mind;
        private final Watches watches;
        private final int[] awake = new int[MOST_PEOPLE];
        private long x;

        Nights(Town town, State state, Mind mind, Watches watches) {
            this.town = town;
            this.state = state;
            this.mind = mind;
            this.watches = watches;
        }

        void sow(long seed) {
            x = seed;
        }

        private int draw(int below) {
            x = x * TIMES + MORE;
            return below > 0 ? (int) ((x >>> 33) % below) : 0;
        }

        void year(int crimes) {
            int worried = draw(town.crowd());
            state.set(worried, State.WORRY, draw(10));
            if (draw(10) < crimes) {
                int guilty = draw(town.crowd());
                state.set(guilty, State.GUILT, Math.min(state.of(guilty, State.GUILT) + 3, 9));
            }
            pass();
        }

        /** One NIGHT. */
        void pass() {
            for (int person = 0; person < MOST_PEOPLE; person++) {
                awake[person] = 0;
            }
            for (int hour = 0; hour < town.hours(); hour++) {
                for (int person = 0; person < town.crowd(); person++) {
                    boolean up = draw(10) < mind.wakesNow(person, hour);
                    awake[person] += up ? 1 : 0;
                    if (watches.seenAt(hour) == person && state.of(person, State.GAOLED) == 0) {
                        state.writeBook(hour, person, up || state.of(person, State.FORGED) != 0);
                    }
                }
            }
            for (int person = 0; person < town.crowd(); person++) {
                state.set(person, State.TIRED, Math.min(awake[person], 9));
                state.set(person, State.COFFEE, 0);
                state.set(person, State.FORGED, 0);
            }
            state.nextNight();
        }
    }

    /** LAMPS told: who it was, what to look at next, and CANDLES. */
    private static final class Lamps {
        private static final int MOST = 12;
        private static final int HALF = 5;

        private final Town town;
        private final Mind mind;
        private final int[] persons = new int[MOST];
        private final int[] hours = new int[MOST];
        private final boolean[] lights = new boolean[MOST];
        private final long[] held = new long[MOST_PEOPLE];
        private final int[] tenths = new int[MOST_HOURS];
        private int many;
        private int must;
        private int never;

        Lamps(Town town, Mind mind) {
            this.town = town;
            this.mind = mind;
        }

        int many() {
            return many;
        }

        void forget() {
            many = 0;
        }

        int add(int person, int hour, boolean lit) {
            if (many >= MOST) {
                return NONE;
            }
            persons[many] = person;
            hours[many] = hour;
            lights[many] = lit;
            many++;
            return many;
        }

        /** Puts HELD of each PERSON with a GUILT into the row. */
        void weigh(int guilt) {
            for (int person = 0; person < town.crowd(); person++) {
                held[person] = heldOf(person, guilt);
            }
        }

        private long heldOf(int suspect, int guilt) {
            long product = 1;
            for (int i = 0; i < many; i++) {
                int wakes = mind.wakesWith(persons[i] == suspect ? guilt : 0, persons[i], hours[i]);
                product *= lights[i] ? wakes : 10 - wakes;
            }
            return product;
        }

        int likeliestOne() {
            int best = 0;
            for (int person = 1; person < town.crowd(); person++) {
                if (held[person] > held[best]) {
                    best = person;
                }
            }
            return best;
        }

        int sureness() {
            long together = 0;
            for (int person = 0; person < town.crowd(); person++) {
                together += held[person];
            }
            return together <= 0 ? 0 : (int) (held[likeliestOne()] * 1000 / together);
        }

        /** ASK; NONE: nobody may be it. */
        int nextLook(int guilt) {
            int suspects = 0;
            for (int person = 0; person < town.crowd(); person++) {
                suspects += held[person] > 0 ? 1 : 0;
            }
            int best = NONE;
            int least = MOST_PEOPLE + 1;
            for (int person = 0; person < town.crowd() && suspects > 0; person++) {
                for (int hour = 0; hour < town.hours(); hour++) {
                    int apart = Math.abs(suspects - 2 * wakefulBy(guilt, person, hour, suspects));
                    if (apart < least) {
                        least = apart;
                        best = 10 * person + hour;
                    }
                }
            }
            return best;
        }

        /** How many of the suspects, if it was they, leave WAKES of a PERSON at 5 or more. */
        private int wakefulBy(int guilt, int person, int hour, int suspects) {
            int itself = held[person] > 0 ? 1 : 0;
            int wakeful = mind.wakesWith(0, person, hour) >= HALF ? suspects - itself : 0;
            return mind.wakesWith(guilt, person, hour) >= HALF ? wakeful + itself : wakeful;
        }

        /** Looks up in which HOURS a PERSON must have, and can't have, been AWAKE. */
        void light(int person) {
            must = 0;
            never = 0;
            for (int hour = 0; hour < town.hours(); hour++) {
                tenths[hour] = mind.wakesNow(person, hour);
                must |= tenths[hour] == 10 ? 1 << hour : 0;
                never |= tenths[hour] == 0 ? 1 << hour : 0;
            }
            for (int i = 0; i < many; i++) {
                if (persons[i] == person) {
                    must |= lights[i] ? 1 << hours[i] : 0;
                    never |= lights[i] ? 0 : 1 << hours[i];
                }
            }
        }

        boolean canBurn(int set, int n) {
            return Integer.bitCount(set) == n && (set & must) == must && (set & never) == 0;
        }

        long oddsOf(int set) {
            long product = 1;
            for (int hour = 0; hour < town.hours(); hour++) {
                product *= (set >> hour & 1) == 1 ? tenths[hour] : 10 - tenths[hour];
            }
            return product;
        }
    }

    /**
     * The best row of PERSONS by HOURS. A place is how often each PERSON was watched so far, as the
     * digits of a number: their sum is the HOUR, so a place tells all that the rest of a row needs.
     */
    private static final class Timetable {
        private static final int PLACES = 6561;

        private final Town town;
        private final State state;
        private final Mind mind;
        private final int[] best = new int[PLACES];
        private final int[] steps = new int[MOST_PEOPLE];
        private final int[] watchable = new int[MOST_PEOPLE];
        private final int[] seen = new int[MOST_PEOPLE];
        private final int[] gains = new int[MOST_PEOPLE * MOST_HOURS];
        private int free;
        private int times = 1;

        Timetable(Town town, State state, Mind mind) {
            this.town = town;
            this.state = state;
            this.mind = mind;
        }

        /** The most that a row gives, each PERSON watched so often at most; NONE: there is none. */
        int fill(int often) {
            times = often;
            int places = gather();
            for (int place = places - 1; place >= 0; place--) {
                best[place] = bestFrom(place);
            }
            return best[0];
        }

        /** Lists who may be watched and what that gives: how many places there are. */
        private int gather() {
            int places = 1;
            free = 0;
            for (int person = 0; person < town.crowd(); person++) {
                if (state.of(person, State.GAOLED) == 0 && places * (times + 1) <= PLACES) {
                    watchable[free] = person;
                    steps[free] = places;
                    for (int hour = 0; hour < town.hours(); hour++) {
                        gains[free * MOST_HOURS + hour] = 10 - mind.wakesNow(person, hour);
                    }
                    free++;
                    places *= times + 1;
                }
            }
            return places;
        }

        /** Puts how often each was watched into the row: the HOUR. */
        private int spread(int place) {
            int rest = place;
            int hour = 0;
            for (int who = 0; who < free; who++) {
                seen[who] = rest % (times + 1);
                rest /= times + 1;
                hour += seen[who];
            }
            return hour;
        }

        /** What the rest of a row gives at most from a place on; NONE: no row goes through it. */
        private int bestFrom(int place) {
            int hour = spread(place);
            if (hour >= town.hours()) {
                return hour == town.hours() ? 0 : NONE;
            }
            int most = NONE;
            for (int who = 0; who < free; who++) {
                most = Math.max(most, gainBy(place, who, hour));
            }
            return most;
        }

        /** What the rest of a row gives from a place that is spread, if one is watched next. */
        private int gainBy(int place, int who, int hour) {
            if (seen[who] >= times || best[place + steps[who]] == NONE) {
                return NONE;
            }
            return gains[who * MOST_HOURS + hour] + best[place + steps[who]];
        }

        /** Of the rows that give the most the least, behind fill(). */
        int leastRow() {
            int place = 0;
            int digits = 0;
            for (int hour = 0; hour < town.hours(); hour++) {
                spread(place);
                int who = 0;
                while (who < free - 1 && gainBy(place, who, hour) != best[place]) {
                    who++;
                }
                digits = digits * 10 + watchable[who];
                place += steps[who];
            }
            return digits;
        }
    }
}
