/**
 * A village in which a guest who has been given a chair has the house.
 *
 * <p>All rows are made with the object and used again: no later call makes an object. OUT is told by
 * NONE wherever a place is held; only rows of choices number it behind the last house.
 */
public final class OwnedByGuests {
    public static final int NONE = -1;
    public static final int RANGE = -2;
    public static final int FULL = -3;
    public static final int STATE = -4;

    /** RANGE of calls whose answers are gains, which RANGE itself might be. */
    private static final int GAIN_RANGE = -1000000;
    /** RANGE of tie() and FULL of book(), whose answers may be small and below 0. */
    private static final int LOW = -1000;

    private static final int MOST = 5;
    private static final int QUARTERS = 4;
    private static final int ALL_LETS = 31;
    private static final int SLOTS = 3;
    private static final int MOST_AFTER = 28;
    private static final int MOST_WORTH = 20;
    private static final int MOST_CHAIRS = 4;

    private static final int CHAIRS = 0;
    private static final int AFTER = 1;
    private static final int WEAR = 2;
    private static final int MEND = 3;
    private static final int TAKE = 4;
    private static final int STROLL = 5;
    private static final int RULES = 6;
    private static final int[] RULE_LEAST = {1, 0, 0, 0, 0, 0};
    private static final int[] RULE_MOST = {4, 28, 20, 20, 9, 100};
    private static final int[] RULE_UNTOLD = {2, 12, 2, 1, 1, 0};

    private final Tape tape = new Tape();
    private final Teller teller = new Teller(tape);
    private Village village = new Village();
    private final Course now = new Course();
    private final Course[] slots = new Course[SLOTS];
    private final Trial trial = new Trial();
    private final Ledger ledger = new Ledger();
    private final int[] feastRow = new int[MOST];
    private boolean hasFeast;

    public OwnedByGuests() {
        for (int i = 0; i < SLOTS; i++) {
            slots[i] = new Course();
        }
        village.clear();
        now.begin(village);
    }

    // ---- the tape

    public int feed(int a, int b, int c, int d, int e) {
        if (tape.length + 20 > Tape.MOST_BYTES) {
            return FULL;
        }
        tape.addFour(a);
        tape.addFour(b);
        tape.addFour(c);
        tape.addFour(d);
        tape.addFour(e);
        return tape.length;
    }

    public int end(int n) {
        if (n < 0 || n > tape.length) {
            return NONE;
        }
        tape.length = n;
        return n;
    }

    // ---- the village

    public int village() {
        boolean isTold = teller.tellAll();
        tape.length = 0;
        if (!isTold) {
            return NONE;
        }
        Village old = village;
        village = teller.into;
        teller.into = old;
        now.begin(village);
        for (int i = 0; i < SLOTS; i++) {
            slots[i].isKept = false;
        }
        hasFeast = false;
        return village.clauses;
    }

    public int fault(int what) {
        switch (what) {
            case 0:
                return teller.kind;
            case 1:
                return teller.place;
            default:
                return NONE;
        }
    }

    public int told(int what) {
        if (what == 0) {
            return village.houses;
        }
        if (what == 1) {
            return village.people;
        }
        if (what >= 2 && what < 2 + RULES) {
            return village.rules[what - 2];
        }
        if (what == 8) {
            return village.isLast ? 1 : 0;
        }
        if (what < 10 || what >= 70) {
            return NONE;
        }
        int which = what % 10;
        return what < 50 ? toldOfHouse(what / 10, which) : toldOfPerson(what / 10, which);
    }

    private int toldOfHouse(int row, int h) {
        if (!isHouse(h)) {
            return NONE;
        }
        switch (row) {
            case 1:
                return village.store[h];
            case 2:
                return village.worth[h];
            case 3:
                return village.state[h];
            default:
                return village.owner[h];
        }
    }

    private int toldOfPerson(int row, int p) {
        if (!isPerson(p)) {
            return NONE;
        }
        return row == 5 ? village.home[p] : village.work[p];
    }

    public int tie(int p, int q) {
        return areTwo(p, q) ? village.ties[p * MOST + q] : LOW;
    }

    // ---- quarters

    public int plan(int person) {
        int answer = isPerson(person) ? readPlan(person) : RANGE;
        tape.length = 0;
        return answer;
    }

    private int readPlan(int person) {
        if (tape.length != QUARTERS) {
            return NONE;
        }
        for (int i = 0; i < QUARTERS; i++) {
            int sign = tape.byteAt(i);
            if (sign != 'o' && !isHouse(sign - '0')) {
                return NONE;
            }
        }
        for (int i = 0; i < QUARTERS; i++) {
            int sign = tape.byteAt(i);
            now.ways.plans[person * QUARTERS + i] = sign == 'o' ? NONE : sign - '0';
        }
        return 1;
    }

    public int planned(int person, int quarter) {
        if (!isPerson(person) || quarter < 0 || quarter >= QUARTERS) {
            return RANGE;
        }
        return now.ways.plans[person * QUARTERS + quarter];
    }

    public int lets(int person, int bits) {
        if (!isPerson(person) || bits < 0 || bits > ALL_LETS) {
            return RANGE;
        }
        int old = now.ways.lets[person];
        now.ways.lets[person] = bits;
        return old;
    }

    public int chance(int seed) {
        if (seed < 0) {
            return RANGE;
        }
        now.seed = seed;
        return 1;
    }

    public int pass(int n) {
        if (n < 0 || n > 400) {
            return RANGE;
        }
        for (int i = 0; i < n; i++) {
            now.passQuarter(village);
        }
        return now.scene.passed;
    }

    public int who(int person, int what) {
        if (!isPerson(person)) {
            return GAIN_RANGE;
        }
        switch (what) {
            case 0:
                return now.scene.where[person];
            case 1:
                return now.scene.stayed[person];
            case 2:
                return now.scene.latest[person];
            case 3:
                return now.scene.all[person];
            default:
                return GAIN_RANGE;
        }
    }

    public int house(int h, int what) {
        if (!isHouse(h)) {
            return RANGE;
        }
        switch (what) {
            case 0:
                return now.scene.haver(village, h);
            case 1:
                return now.scene.store[h];
            case 2:
                return now.scene.state[h];
            case 3:
                return now.scene.guestsIn(village, h);
            default:
                return RANGE;
        }
    }

    public int word(int h) {
        return isHouse(h) ? now.scene.wordOf(village, h) : RANGE;
    }

    public int keep(int slot) {
        if (slot < 0 || slot >= SLOTS) {
            return RANGE;
        }
        slots[slot].copyFrom(now);
        slots[slot].isKept = true;
        return now.scene.passed;
    }

    public int take(int slot) {
        if (slot < 0 || slot >= SLOTS) {
            return RANGE;
        }
        if (!slots[slot].isKept) {
            return STATE;
        }
        now.copyFrom(slots[slot]);
        return now.scene.passed;
    }

    // ---- what is best

    public int sum(int person) {
        if (!isPerson(person)) {
            return GAIN_RANGE;
        }
        trial.setOut(village, now);
        return trial.sumOf(person);
    }

    public int best(int person, int what) {
        if (!isPerson(person) || what < 0 || what > QUARTERS) {
            return GAIN_RANGE;
        }
        trial.setOut(village, now);
        trial.findBest(person);
        return what == QUARTERS ? trial.bestSum : trial.bestPlace(what);
    }

    public int rests() {
        trial.setOut(village, now);
        return trial.findRest(NONE);
    }

    public int rest(int i, int person) {
        if (i < 0 || !isPerson(person)) {
            return RANGE;
        }
        trial.setOut(village, now);
        if (trial.findRest(i) <= i) {
            return RANGE;
        }
        return trial.wish[person];
    }

    public int settle() {
        trial.setOut(village, now);
        int rounds = trial.settleAll();
        now.ways.copyFrom(trial.ways);
        return rounds;
    }

    // ---- days, guards, laws

    public int longer(int h, int d, int what) {
        if (!isHouse(h) || d < 1 || d > 60 || what < 0 || what > 1) {
            return RANGE;
        }
        trial.setOut(village, now);
        trial.runQuarters(d * QUARTERS);
        return what == 0 ? trial.scene.store[h] : trial.scene.state[h];
    }

    public int guard(int person, int friend) {
        if (!areTwo(person, friend)) {
            return RANGE;
        }
        int home = village.home[person];
        if (home == NONE) {
            return NONE;
        }
        trial.setOut(village, now);
        return trial.holds(home, friend) ? 1 : 0;
    }

    public int rings(int what) {
        if (what < 0 || what > 1) {
            return RANGE;
        }
        trial.setOut(village, now);
        trial.findRings();
        return what == 0 ? trial.rings : trial.leastRing;
    }

    public int when(int person) {
        if (!isPerson(person)) {
            return RANGE;
        }
        trial.setOut(village, now);
        return trial.bestQuarterOut(person);
    }

    public int bound(int person, int most) {
        if (!isPerson(person) || most < -1000 || most > 9999) {
            return RANGE;
        }
        trial.setOut(village, now);
        return trial.leastAfter(person, most);
    }

    public int law(boolean isLast, int after, int d, int what) {
        if (after < 0 || after > MOST_AFTER || d < 1 || d > 20 || what < 0 || what > 1) {
            return GAIN_RANGE;
        }
        trial.setOut(village, now);
        trial.runLaw(isLast, after, d);
        return what == 0 ? trial.gainOfAll() : trial.stateLost();
    }

    public int bestLaw(int d) {
        if (d < 1 || d > 20) {
            return RANGE;
        }
        trial.setOut(village, now);
        return trial.greatestLaw(d);
    }

    // ---- feasts, doors

    public int feast() {
        boolean isFeast = isFeastOnTape();
        if (isFeast) {
            hasFeast = true;
            for (int i = 0; i < village.people; i++) {
                feastRow[i] = tape.byteAt(i) - '0';
            }
        }
        tape.length = 0;
        return isFeast ? feastEnd() : NONE;
    }

    private boolean isFeastOnTape() {
        if (tape.length != village.people) {
            return false;
        }
        int seen = 0;
        for (int i = 0; i < village.people; i++) {
            int person = tape.byteAt(i) - '0';
            if (!isPerson(person) || (seen >> person & 1) == 1) {
                return false;
            }
            seen |= 1 << person;
        }
        return true;
    }

    /** Rows of five end in six turns at most; the bound stands above that. */
    private int feastEnd() {
        for (int turns = 1; turns < 120; turns++) {
            boolean areAllHome = true;
            for (int p = 0; p < village.people; p++) {
                areAllHome = areAllHome && placeBehind(p, turns) == p;
            }
            if (areAllHome) {
                return turns;
            }
        }
        return NONE;
    }

    private int placeBehind(int person, int turns) {
        int place = person;
        for (int i = 0; i < turns; i++) {
            if (isPerson(place)) {
                place = feastRow[place];
            }
        }
        return place;
    }

    public int turned(int person, int turns) {
        if (!isPerson(person) || turns < 0 || turns > 999) {
            return RANGE;
        }
        return hasFeast ? placeBehind(person, turns) : NONE;
    }

    public int whom(int person) {
        if (!isPerson(person)) {
            return RANGE;
        }
        trial.setOut(village, now);
        return trial.bestLets(person);
    }

    public int edge(int person, int other) {
        if (!areTwo(person, other)) {
            return RANGE;
        }
        if (village.home[person] == NONE) {
            return STATE;
        }
        trial.setOut(village, now);
        return trial.leastWorth(person, other);
    }

    public int show(int person) {
        if (!isPerson(person)) {
            return RANGE;
        }
        trial.setOut(village, now);
        return trial.bestChairs(person);
    }

    public int book() {
        boolean isBook = ledger.readAll(tape);
        tape.length = 0;
        if (!isBook) {
            return LOW;
        }
        int row = ledger.firstThatCannot(village, now.ways.lets);
        return row == NONE ? ledger.size : NONE - row;
    }

    public int count(int what) {
        switch (what) {
            case 0:
                return village.clauses;
            case 1:
                return now.scene.passed;
            case 2:
                return tape.length;
            default:
                return NONE;
        }
    }

    private boolean isHouse(int h) {
        return h >= 0 && h < village.houses;
    }

    private boolean isPerson(int p) {
        return p >= 0 && p < village.people;
    }

    private boolean areTwo(int p, int q) {
        return isPerson(p) && isPerson(q) && p != q;
    }

    /** The bytes that were fed, and the token of them that was read last. */
    private static final class Tape {
        static final int MOST_BYTES = 900;
        static final int MOST_LETTERS = 8;
        static final int MOST_DIGITS = 3;

        static final int TEXT_END = 0;
        static final int NAME = 1;
        static final int NUMBER = 2;
        static final int SEMICOLON = 3;
        static final int BLANK = 4;
        static final int BAD = 5;

        final int[] bytes = new int[MOST_BYTES];
        int length;
        /** Behind the token. */
        int next;
        int kind;
        int start;
        int number;
        /** The letters, five bits each, so that no two names are told by the same. */
        long name;

        void addFour(int four) {
            for (int shift = 24; shift >= 0; shift -= 8) {
                if (length >= 0 && length < MOST_BYTES) {
                    bytes[length] = (four >>> shift) & 255;
                    length++;
                }
            }
        }

        int byteAt(int i) {
            return i >= 0 && i < length && i < MOST_BYTES ? bytes[i] : NONE;
        }

        void readFirst() {
            next = 0;
            readToken();
        }

        void readToken() {
            while (next < length && kindAt(next) == BLANK) {
                next++;
            }
            start = next;
            kind = kindAt(start);
            name = 0;
            number = 0;
            if (kind == NAME || kind == NUMBER) {
                readRun();
            } else if (kind != TEXT_END) {
                next++;
            }
        }

        private void readRun() {
            while (next < length && kindAt(next) == kind) {
                int sign = byteAt(next);
                if (kind == NAME) {
                    name = name * 32 + (sign - 'a' + 1);
                } else {
                    number = number * 10 + (sign - '0');
                }
                next++;
            }
            if (next - start > (kind == NAME ? MOST_LETTERS : MOST_DIGITS)) {
                kind = BAD;
            }
        }

        private int kindAt(int i) {
            if (i < 0 || i >= length || i >= MOST_BYTES) {
                return TEXT_END;
            }
            int sign = bytes[i];
            if (sign >= 'a' && sign <= 'z') {
                return NAME;
            }
            if (sign >= '0' && sign <= '9') {
                return NUMBER;
            }
            if (sign == ' ' || sign == 10) {
                return BLANK;
            }
            return sign == ';' ? SEMICOLON : BAD;
        }

        boolean reads(String text) {
            if (kind != NAME || next - start != text.length()) {
                return false;
            }
            for (int i = 0; i < text.length(); i++) {
                if (byteAt(start + i) != text.charAt(i)) {
                    return false;
                }
            }
            return true;
        }
    }

    /** What a text told. */
    private static final class Village {
        int clauses;
        int houses;
        int people;
        boolean isLast;
        /** Which rules were told, as bits. */
        int rulesTold;
        /** Which ties were told, as bits by their place in the row of ties. */
        int tiesTold;
        final int[] rules = new int[RULES];
        final long[] houseNames = new long[MOST];
        final int[] store = new int[MOST];
        final int[] worth = new int[MOST];
        final int[] state = new int[MOST];
        final int[] owner = new int[MOST];
        final long[] personNames = new long[MOST];
        final int[] home = new int[MOST];
        final int[] work = new int[MOST];
        final int[] ties = new int[MOST * MOST];

        void clear() {
            clauses = 0;
            houses = 0;
            people = 0;
            isLast = false;
            rulesTold = 0;
            tiesTold = 0;
            System.arraycopy(RULE_UNTOLD, 0, rules, 0, RULES);
            for (int i = 0; i < MOST; i++) {
                owner[i] = NONE;
                home[i] = NONE;
                work[i] = 0;
            }
            for (int i = 0; i < MOST * MOST; i++) {
                ties[i] = 0;
            }
        }

        /** Copies what quarters ask for alone: a trial goes on from a scene, not from a text. */
        void copyFrom(Village other) {
            houses = other.houses;
            people = other.people;
            isLast = other.isLast;
            System.arraycopy(other.rules, 0, rules, 0, RULES);
            System.arraycopy(other.worth, 0, worth, 0, MOST);
            System.arraycopy(other.owner, 0, owner, 0, MOST);
            System.arraycopy(other.home, 0, home, 0, MOST);
            System.arraycopy(other.work, 0, work, 0, MOST);
            System.arraycopy(other.ties, 0, ties, 0, MOST * MOST);
        }

        boolean mustWork(int person, int passed) {
            return (work[person] >> (passed & 3) & 1) == 1;
        }

        int houseNamed(long name) {
            return find(houseNames, houses, name);
        }

        int personNamed(long name) {
            return find(personNames, people, name);
        }

        private static int find(long[] names, int size, long name) {
            for (int i = 0; i < size && i < names.length; i++) {
                if (names[i] == name) {
                    return i;
                }
            }
            return NONE;
        }
    }

    /** Reads a village from the tape up to its end or its first fault. */
    private static final class Teller {
        static final int SYNTAX = 1;
        static final int BOUNDS = 2;
        static final int TWICE = 3;
        static final int ROOM = 4;
        static final int UNKNOWN = 5;

        private final Tape text;
        /** Not yet the village itself, so that a fault leaves that as it is. */
        Village into = new Village();
        /** 0 as long as there is no fault. */
        int kind;
        int place = NONE;

        Teller(Tape tape) {
            text = tape;
        }

        boolean tellAll() {
            kind = 0;
            place = NONE;
            into.clear();
            text.readFirst();
            for (int i = 0; i < Tape.MOST_BYTES && kind == 0 && text.kind != Tape.TEXT_END; i++) {
                tellClause();
            }
            return kind == 0;
        }

        private void tellClause() {
            if (text.reads("house")) {
                tellHouse();
            } else if (text.reads("person")) {
                tellPerson();
            } else if (text.reads("tie")) {
                tellTie();
            } else if (text.reads("work")) {
                tellWork();
            } else if (text.reads("last")) {
                tellLast();
            } else {
                tellRule();
            }
            if (kind == 0 && text.kind != Tape.SEMICOLON) {
                blame(SYNTAX);
            }
            if (kind == 0) {
                into.clauses++;
                text.readToken();
            }
        }

        private void tellHouse() {
            int h = into.houses;
            if (h >= MOST) {
                blame(ROOM);
                return;
            }
            text.readToken();
            into.houseNames[h] = readNewName(true);
            into.store[h] = readNumber(0, 99);
            into.worth[h] = readNumber(0, MOST_WORTH);
            into.state[h] = readNumber(0, 100);
            into.houses++;
        }

        private void tellPerson() {
            int p = into.people;
            if (p >= MOST) {
                blame(ROOM);
                return;
            }
            text.readToken();
            into.personNames[p] = readNewName(false);
            if (kind == 0 && text.reads("of")) {
                text.readToken();
                tellHome(p);
            }
            into.people++;
        }

        private void tellHome(int p) {
            int h = into.houseNamed(text.name);
            if (text.kind != Tape.NAME) {
                blame(SYNTAX);
            } else if (h == NONE) {
                blame(UNKNOWN);
            } else if (into.owner[h] != NONE) {
                blame(TWICE);
            } else {
                into.owner[h] = p;
                into.home[p] = h;
                text.readToken();
            }
        }

        private void tellTie() {
            text.readToken();
            int p = readPerson();
            if (kind == 0 && isTiedAgain(p)) {
                blame(TWICE);
            }
            int q = readPerson();
            int tie = readNumber(0, 20) - 10;
            if (kind == 0) {
                into.ties[p * MOST + q] = tie;
                into.tiesTold |= 1 << (p * MOST + q);
            }
        }

        private boolean isTiedAgain(int p) {
            int q = into.personNamed(text.name);
            if (text.kind != Tape.NAME || q == NONE) {
                return false;
            }
            return q == p || (into.tiesTold >> (p * MOST + q) & 1) == 1;
        }

        private void tellWork() {
            text.readToken();
            int again = into.personNamed(text.name);
            if (text.kind == Tape.NAME && again != NONE && into.work[again] != 0) {
                blame(TWICE);
            }
            int p = readPerson();
            int quarters = readNumber(1, 15);
            if (kind == 0) {
                into.work[p] = quarters;
            }
        }

        private void tellLast() {
            if (into.isLast) {
                blame(TWICE);
                return;
            }
            into.isLast = true;
            text.readToken();
        }

        private void tellRule() {
            int rule = ruleRead();
            if (rule == NONE) {
                blame(SYNTAX);
                return;
            }
            if ((into.rulesTold >> rule & 1) == 1) {
                blame(TWICE);
                return;
            }
            into.rulesTold |= 1 << rule;
            text.readToken();
            into.rules[rule] = readNumber(RULE_LEAST[rule], RULE_MOST[rule]);
        }

        private int ruleRead() {
            if (text.reads("chairs")) {
                return CHAIRS;
            }
            if (text.reads("after")) {
                return AFTER;
            }
            if (text.reads("wear")) {
                return WEAR;
            }
            if (text.reads("mend")) {
                return MEND;
            }
            if (text.reads("take")) {
                return TAKE;
            }
            return text.reads("stroll") ? STROLL : NONE;
        }

        private long readNewName(boolean isHouse) {
            long name = text.name;
            int same = isHouse ? into.houseNamed(name) : into.personNamed(name);
            if (text.kind != Tape.NAME) {
                blame(SYNTAX);
            } else if (same != NONE) {
                blame(TWICE);
            } else {
                text.readToken();
            }
            return name;
        }

        private int readPerson() {
            if (kind != 0) {
                return NONE;
            }
            int p = into.personNamed(text.name);
            if (text.kind != Tape.NAME) {
                blame(SYNTAX);
            } else if (p == NONE) {
                blame(UNKNOWN);
            } else {
                text.readToken();
            }
            return p;
        }

        private int readNumber(int least, int most) {
            if (kind != 0) {
                return 0;
            }
            int number = text.number;
            if (text.kind != Tape.NUMBER) {
                blame(SYNTAX);
            } else if (number < least || number > most) {
                blame(BOUNDS);
            } else {
                text.readToken();
            }
            return number;
        }

        private void blame(int fault) {
            kind = fault;
            place = text.start;
        }
    }

    /** All that quarters change but for the chance. */
    private static final class Scene {
        int passed;
        final int[] where = new int[MOST];
        final int[] stayed = new int[MOST];
        final int[] latest = new int[MOST];
        final int[] all = new int[MOST];
        final int[] store = new int[MOST];
        final int[] state = new int[MOST];

        void begin(Village v) {
            passed = 0;
            for (int i = 0; i < MOST; i++) {
                where[i] = v.home[i];
                stayed[i] = 0;
                latest[i] = 0;
                all[i] = 0;
                store[i] = v.store[i];
                state[i] = v.state[i];
            }
        }

        void copyFrom(Scene other) {
            passed = other.passed;
            System.arraycopy(other.where, 0, where, 0, MOST);
            System.arraycopy(other.stayed, 0, stayed, 0, MOST);
            System.arraycopy(other.latest, 0, latest, 0, MOST);
            System.arraycopy(other.all, 0, all, 0, MOST);
            System.arraycopy(other.store, 0, store, 0, MOST);
            System.arraycopy(other.state, 0, state, 0, MOST);
        }

        int guestsIn(Village v, int h) {
            int guests = 0;
            for (int p = 0; p < v.people; p++) {
                if (where[p] == h && v.owner[h] != p) {
                    guests++;
                }
            }
            return guests;
        }

        int haver(Village v, int h) {
            int owner = v.owner[h];
            int found = NONE;
            int foundStay = 0;
            for (int p = 0; p < v.people; p++) {
                if (where[p] == h && p != owner && stayed[p] < v.rules[AFTER]) {
                    // of alike ones a later number is ahead with last alone
                    boolean isAhead = v.isLast ? stayed[p] <= foundStay : stayed[p] > foundStay;
                    if (found == NONE || isAhead) {
                        found = p;
                        foundStay = stayed[p];
                    }
                }
            }
            if (found == NONE && owner != NONE && where[owner] == h) {
                return owner;
            }
            return found;
        }

        int wordOf(Village v, int h) {
            int haver = haver(v, h);
            int owner = v.owner[h];
            if (haver == NONE) {
                return 0;
            }
            if (haver == owner) {
                return 1;
            }
            int counting = 0;
            int alike = 0;
            for (int p = 0; p < v.people; p++) {
                if (where[p] == h && p != owner && stayed[p] < v.rules[AFTER]) {
                    counting++;
                    if (stayed[p] == stayed[haver]) {
                        alike++;
                    }
                }
            }
            if (counting == 1) {
                return 2;
            }
            return alike == 1 ? 3 : 4;
        }

        /** One quarter by these wishes (NONE: OUT). */
        void goOn(Village v, int[] lets, int[] wish) {
            int left = leave(v, wish);
            for (int p = 0; p < v.people; p++) {
                if ((left >> p & 1) == 1 && mayCome(v, lets, p, wish[p])) {
                    where[p] = wish[p];
                }
            }
            for (int p = 0; p < v.people; p++) {
                latest[p] = gainOfTies(v, p);
            }
            for (int h = 0; h < v.houses; h++) {
                useHouse(v, h);
            }
            for (int p = 0; p < v.people; p++) {
                all[p] += latest[p];
            }
            passed++;
        }

        /** Who left, as bits; all of them are OUT behind it. */
        private int leave(Village v, int[] wish) {
            int left = 0;
            for (int p = 0; p < v.people; p++) {
                if (where[p] != wish[p]) {
                    left |= 1 << p;
                    where[p] = NONE;
                    stayed[p] = 0;
                } else if (where[p] != NONE) {
                    stayed[p]++;
                }
            }
            return left;
        }

        private boolean mayCome(Village v, int[] lets, int p, int h) {
            if (h < 0 || h >= v.houses) {
                return false;
            }
            if (v.owner[h] == p) {
                return true;
            }
            if (guestsIn(v, h) >= v.rules[CHAIRS]) {
                return false;
            }
            int haver = haver(v, h);
            return haver == NONE || (lets[haver] >> p & 1) == 1;
        }

        private int gainOfTies(Village v, int p) {
            int gain = 0;
            if (where[p] != NONE) {
                for (int q = 0; q < v.people; q++) {
                    if (q != p && where[q] == where[p]) {
                        gain += v.ties[p * MOST + q];
                    }
                }
            }
            return gain;
        }

        private void useHouse(Village v, int h) {
            int haver = haver(v, h);
            if (haver == NONE) {
                return;
            }
            int taken = Math.min(v.rules[TAKE], store[h]);
            latest[haver] += v.worth[h] * state[h] / 100 + taken;
            store[h] -= taken;
            if (haver == v.owner[h]) {
                state[h] = Math.min(100, state[h] + v.rules[MEND]);
            } else {
                state[h] = Math.max(0, state[h] - v.rules[WEAR]);
            }
        }
    }

    /** Plans, four places a person, and lets. */
    private static final class Ways {
        final int[] plans = new int[MOST * QUARTERS];
        final int[] lets = new int[MOST];

        void begin(Village v) {
            for (int p = 0; p < MOST; p++) {
                planEach(p, v.home[p]);
                lets[p] = ALL_LETS;
            }
        }

        void copyFrom(Ways other) {
            System.arraycopy(other.plans, 0, plans, 0, MOST * QUARTERS);
            System.arraycopy(other.lets, 0, lets, 0, MOST);
        }

        void planEach(int person, int place) {
            for (int i = 0; i < QUARTERS; i++) {
                plans[person * QUARTERS + i] = place;
            }
        }

        /** Where all wish to be in the quarter behind so many. */
        void fillWishes(Village v, int passed, int[] wish) {
            for (int p = 0; p < v.people; p++) {
                wish[p] = v.mustWork(p, passed) ? NONE : plans[p * QUARTERS + (passed & 3)];
            }
        }
    }

    /** How things are, or were when a slot kept them. */
    private static final class Course {
        final Scene scene = new Scene();
        final Ways ways = new Ways();
        int seed = 1;
        boolean isKept;
        private final int[] wish = new int[MOST];

        /** The chance stays. */
        void begin(Village v) {
            scene.begin(v);
            ways.begin(v);
        }

        void copyFrom(Course other) {
            scene.copyFrom(other.scene);
            ways.copyFrom(other.ways);
            seed = other.seed;
        }

        void passQuarter(Village v) {
            ways.fillWishes(v, scene.passed, wish);
            if (v.rules[STROLL] > 0) {
                stroll(v);
            }
            scene.goOn(v, ways.lets, wish);
        }

        private void stroll(Village v) {
            for (int p = 0; p < v.people; p++) {
                boolean strolls = draw(100) < v.rules[STROLL];
                if (strolls && !v.mustWork(p, scene.passed)) {
                    int place = draw(v.houses + 1);
                    wish[p] = place < v.houses ? place : NONE;
                }
            }
        }

        private int draw(int n) {
            seed = (int) ((1103515245L * seed + 12345L) & 0x7fffffffL);
            return n > 0 ? (seed >> 16) % n : 0;
        }
    }

    /** A row of choices that goes through all its values, the last place fastest. */
    private static final class Choices {
        final int[] chosen = new int[MOST];
        final int[] most = new int[MOST];
        int size;

        void begin(int places, int choices) {
            size = Math.min(places, MOST);
            for (int i = 0; i < size; i++) {
                chosen[i] = 0;
                most[i] = choices;
            }
        }

        /** The first place at which the next row differs; NONE: there is no next one. */
        int goOn() {
            for (int i = size - 1; i >= 0; i--) {
                if (chosen[i] + 1 < most[i]) {
                    chosen[i]++;
                    return i;
                }
                chosen[i] = 0;
            }
            return NONE;
        }
    }

    /** What would be: its village and ways may be changed, the real ones stay. */
    private static final class Trial {
        /** Rows of five people with six places each. */
        static final int MOST_ROWS = 7776;
        /** A gain of one quarter is -40 .. 69: with this more it is above 0 and has a byte to itself. */
        static final int GAIN_LIFT = 128;

        final Village village = new Village();
        final Ways ways = new Ways();
        /** From where each run sets out. */
        private final Scene origin = new Scene();
        final Scene scene = new Scene();
        /** How things are ahead of each quarter of a day, and behind it. */
        private final Scene[] day = new Scene[QUARTERS + 1];
        final int[] wish = new int[MOST];
        private final Choices choices = new Choices();
        /** Of each row of wishes the gain of each, a byte a person, to keep the object small. */
        private final long[] gains = new long[MOST_ROWS];
        /** How many rows lie between two choices of a person. */
        private final int[] strides = new int[MOST];
        int bestSum;
        /** Three bits a quarter of the day, the first highest: less is the lesser row. */
        private int bestRow;
        int rings;
        int leastRing;

        Trial() {
            for (int i = 0; i <= QUARTERS; i++) {
                day[i] = new Scene();
            }
        }

        void setOut(Village told, Course now) {
            village.copyFrom(told);
            ways.copyFrom(now.ways);
            origin.copyFrom(now.scene);
        }

        private int placeOf(int choice) {
            return choice < village.houses ? choice : NONE;
        }

        void runQuarters(int n) {
            scene.copyFrom(origin);
            for (int i = 0; i < n; i++) {
                ways.fillWishes(village, scene.passed, wish);
                scene.goOn(village, ways.lets, wish);
            }
        }

        int sumOf(int person) {
            runQuarters(QUARTERS);
            return scene.all[person] - origin.all[person];
        }

        // -- the best plan

        /** Goes through all plans in the order in which their quarters come, so that days share their beginnings. */
        void findBest(int person) {
            bestSum = GAIN_RANGE;
            bestRow = 0;
            choices.begin(QUARTERS, village.houses + 1);
            day[0].copyFrom(origin);
            int changed = 0;
            for (int i = 0; i < MOST_ROWS && changed != NONE; i++) {
                for (int k = changed; k < QUARTERS; k++) {
                    passOfDay(k, person);
                }
                judgeDay(person);
                changed = choices.goOn();
            }
        }

        private void passOfDay(int k, int person) {
            Scene ahead = day[k];
            ways.fillWishes(village, ahead.passed, wish);
            if (!village.mustWork(person, ahead.passed)) {
                wish[person] = placeOf(choices.chosen[k]);
            }
            Scene behind = day[k + 1];
            behind.copyFrom(ahead);
            behind.goOn(village, ways.lets, wish);
        }

        private void judgeDay(int person) {
            int gain = day[QUARTERS].all[person] - origin.all[person];
            int row = 0;
            for (int k = 0; k < QUARTERS; k++) {
                int quarter = (origin.passed + k) & 3;
                row |= choices.chosen[k] << 3 * (3 - quarter);
            }
            if (gain > bestSum || gain == bestSum && row < bestRow) {
                bestSum = gain;
                bestRow = row;
            }
        }

        int bestPlace(int quarter) {
            return placeOf(bestRow >> 3 * (3 - quarter) & 7);
        }

        int settleAll() {
            for (int round = 1; round <= 9; round++) {
                boolean isSettled = true;
                for (int p = 0; p < village.people; p++) {
                    int own = sumOf(p);
                    findBest(p);
                    if (bestSum > own) {
                        isSettled = false;
                        planBest(p);
                    }
                }
                if (isSettled) {
                    return round;
                }
            }
            return NONE;
        }

        private void planBest(int person) {
            for (int i = 0; i < QUARTERS; i++) {
                ways.plans[person * QUARTERS + i] = bestPlace(i);
            }
        }

        // -- rests

        /** How many rests there are, but no more than up to number i, by whose wishes it ends if there is one. */
        int findRest(int i) {
            fillGains();
            beginRows();
            int found = 0;
            int changed = 0;
            for (int row = 0; row < MOST_ROWS && changed != NONE; row++) {
                if (isRest(row)) {
                    found++;
                    if (found == i + 1) {
                        wishRow();
                        return found;
                    }
                }
                changed = choices.goOn();
            }
            return found;
        }

        private void beginRows() {
            choices.begin(village.people, village.houses + 1);
            int stride = 1;
            for (int p = village.people - 1; p >= 0; p--) {
                if (village.mustWork(p, origin.passed)) {
                    choices.most[p] = 1;
                }
                strides[p] = stride;
                stride *= choices.most[p];
            }
        }

        private void wishRow() {
            for (int p = 0; p < village.people; p++) {
                wish[p] = village.mustWork(p, origin.passed) ? NONE : placeOf(choices.chosen[p]);
            }
        }

        /** The scene is one quarter on behind it. */
        private int gainByWishes(int person) {
            scene.copyFrom(origin);
            scene.goOn(village, ways.lets, wish);
            return scene.latest[person];
        }

        private void fillGains() {
            beginRows();
            int changed = 0;
            for (int row = 0; row < MOST_ROWS && changed != NONE; row++) {
                wishRow();
                scene.copyFrom(origin);
                scene.goOn(village, ways.lets, wish);
                gains[row] = packedGains();
                changed = choices.goOn();
            }
        }

        private long packedGains() {
            long packed = 0;
            for (int p = village.people - 1; p >= 0; p--) {
                packed = packed << 8 | (scene.latest[p] + GAIN_LIFT) & 255;
            }
            return packed;
        }

        private boolean isRest(int row) {
            for (int p = 0; p < village.people; p++) {
                int first = row - choices.chosen[p] * strides[p];
                for (int c = 0; c < choices.most[p]; c++) {
                    if (gainAt(first + c * strides[p], p) > gainAt(row, p)) {
                        return false;
                    }
                }
            }
            return true;
        }

        private int gainAt(int row, int person) {
            if (row < 0 || row >= MOST_ROWS) {
                return GAIN_RANGE;
            }
            return (int) (gains[row] >> 8 * person & 255) - GAIN_LIFT;
        }

        // -- rings and guards

        boolean holds(int house, int friend) {
            int own = sumOf(friend);
            ways.planEach(friend, house);
            return sumOf(friend) >= own;
        }

        /** Rows rise, so the first ring is the least. */
        void findRings() {
            rings = 0;
            leastRing = NONE;
            if (!canRing()) {
                return;
            }
            choices.begin(village.people, village.houses);
            for (int p = 0; p < village.people; p++) {
                if (village.home[p] == NONE) {
                    choices.most[p] = 1;
                }
            }
            int changed = 0;
            for (int i = 0; i < MOST_ROWS && changed != NONE; i++) {
                if (goRound() && isRing()) {
                    rings++;
                    if (rings == 1) {
                        leastRing = ringNumber();
                    }
                }
                changed = choices.goOn();
            }
        }

        private boolean canRing() {
            int owners = 0;
            for (int p = 0; p < village.people; p++) {
                if (village.home[p] != NONE) {
                    owners++;
                    if (village.mustWork(p, origin.passed)) {
                        return false;
                    }
                }
            }
            return owners >= 2;
        }

        /** Whether each who has a house chose another one's, no two the same. */
        private boolean goRound() {
            int taken = 0;
            for (int p = 0; p < village.people; p++) {
                if (village.home[p] != NONE) {
                    int h = choices.chosen[p];
                    if (village.owner[h] == NONE || village.owner[h] == p || (taken >> h & 1) == 1) {
                        return false;
                    }
                    taken |= 1 << h;
                }
            }
            return true;
        }

        private boolean isRing() {
            for (int p = 0; p < village.people; p++) {
                if (village.home[p] != NONE) {
                    wishRing();
                    int gain = gainByWishes(p);
                    for (int c = 0; c <= village.houses; c++) {
                        wish[p] = placeOf(c);
                        if (gainByWishes(p) > gain) {
                            return false;
                        }
                    }
                }
            }
            return true;
        }

        private void wishRing() {
            ways.fillWishes(village, origin.passed, wish);
            for (int p = 0; p < village.people; p++) {
                if (village.home[p] != NONE) {
                    wish[p] = choices.chosen[p];
                }
            }
        }

        private int ringNumber() {
            int number = 0;
            for (int p = 0; p < village.people; p++) {
                number = number * 10 + (village.home[p] == NONE ? 9 : choices.chosen[p]);
            }
            return number;
        }

        // -- one thing changed

        int bestQuarterOut(int person) {
            int greatest = GAIN_RANGE;
            int found = 0;
            for (int i = 0; i < QUARTERS; i++) {
                int at = person * QUARTERS + i;
                int place = ways.plans[at];
                ways.plans[at] = NONE;
                int gain = sumOf(person);
                ways.plans[at] = place;
                if (gain > greatest) {
                    greatest = gain;
                    found = i;
                }
            }
            return found;
        }

        int leastAfter(int person, int most) {
            for (int after = 0; after <= MOST_AFTER; after++) {
                village.rules[AFTER] = after;
                findBest(person);
                if (bestSum <= most) {
                    return after;
                }
            }
            return NONE;
        }

        int bestLets(int person) {
            int greatest = GAIN_RANGE;
            int found = 0;
            for (int bits = 0; bits < 1 << village.people; bits++) {
                if ((bits >> person & 1) == 0) {
                    ways.lets[person] = bits;
                    int gain = sumOf(person);
                    if (gain > greatest) {
                        greatest = gain;
                        found = bits;
                    }
                }
            }
            return found;
        }

        int leastWorth(int person, int other) {
            int home = village.home[person];
            if (home == NONE) {
                return NONE;
            }
            int with = ways.lets[person] | 1 << other;
            for (int worth = 0; worth <= MOST_WORTH; worth++) {
                village.worth[home] = worth;
                ways.lets[person] = with;
                int gain = sumOf(person);
                ways.lets[person] = with & ~(1 << other);
                if (sumOf(person) > gain) {
                    return worth;
                }
            }
            return NONE;
        }

        int bestChairs(int person) {
            int greatest = GAIN_RANGE;
            int found = 1;
            for (int chairs = 1; chairs <= MOST_CHAIRS; chairs++) {
                village.rules[CHAIRS] = chairs;
                int gain = sumOf(person);
                if (gain > greatest) {
                    greatest = gain;
                    found = chairs;
                }
            }
            return found;
        }

        // -- laws

        void runLaw(boolean isLast, int after, int days) {
            village.isLast = isLast;
            village.rules[AFTER] = after;
            runQuarters(days * QUARTERS);
        }

        int gainOfAll() {
            int gain = 0;
            for (int p = 0; p < village.people; p++) {
                gain += scene.all[p] - origin.all[p];
            }
            return gain;
        }

        int stateLost() {
            int lost = 0;
            for (int h = 0; h < village.houses; h++) {
                lost += origin.state[h] - scene.state[h];
            }
            return lost;
        }

        int greatestLaw(int days) {
            int greatest = GAIN_RANGE;
            int found = 0;
            for (int i = 0; i < 2; i++) {
                for (int after = 0; after <= MOST_AFTER; after++) {
                    runLaw(i == 1, after, days);
                    if (gainOfAll() > greatest) {
                        greatest = gainOfAll();
                        found = 100 * i + after;
                    }
                }
            }
            return found;
        }
    }

    /** The rows of a book. */
    private static final class Ledger {
        /** A row has six bytes at least. */
        static final int MOST_ROWS = 150;
        static final int MOST_QUARTER = 99;
        static final int OUTSIDE = 5;

        final int[] quarters = new int[MOST_ROWS];
        final int[] persons = new int[MOST_ROWS];
        /** NONE: OUT. */
        final int[] places = new int[MOST_ROWS];
        int size;
        private final Scene scene = new Scene();
        private final int[] wish = new int[MOST];

        boolean readAll(Tape tape) {
            size = 0;
            tape.readFirst();
            boolean isBook = true;
            for (int i = 0; i < MOST_ROWS && isBook && tape.kind != Tape.TEXT_END; i++) {
                isBook = readRow(tape);
            }
            return isBook && tape.kind == Tape.TEXT_END;
        }

        private boolean readRow(Tape tape) {
            if (size < 0 || size >= MOST_ROWS) {
                return false;
            }
            int quarter = readNumber(tape, MOST_QUARTER);
            int person = readNumber(tape, MOST - 1);
            int place = readNumber(tape, OUTSIDE);
            if (quarter == NONE || person == NONE || place == NONE || tape.kind != Tape.SEMICOLON) {
                return false;
            }
            tape.readToken();
            quarters[size] = quarter;
            persons[size] = person;
            places[size] = place == OUTSIDE ? NONE : place;
            size++;
            return true;
        }

        /** NONE, and the token stays, if it is no such number: whatever stands behind it then tells nothing. */
        private static int readNumber(Tape tape, int most) {
            if (tape.kind != Tape.NUMBER || tape.number > most) {
                return NONE;
            }
            int number = tape.number;
            tape.readToken();
            return number;
        }

        /** NONE: all can be. */
        int firstThatCannot(Village v, int[] lets) {
            int good = rowsInOrder(v);
            int row = 0;
            scene.begin(v);
            for (int quarter = 0; quarter <= MOST_QUARTER && row < good; quarter++) {
                int behind = passRows(v, lets, row, good);
                while (row < behind) {
                    if (scene.where[persons[row]] != places[row]) {
                        return row;
                    }
                    row++;
                }
            }
            return good < size ? good : NONE;
        }

        private int rowsInOrder(Village v) {
            for (int i = 0; i < size; i++) {
                if (persons[i] >= v.people || places[i] >= v.houses || isOutOfOrder(i)) {
                    return i;
                }
            }
            return size;
        }

        private boolean isOutOfOrder(int i) {
            for (int k = 0; k < i; k++) {
                if (quarters[k] > quarters[i] || quarters[k] == quarters[i] && persons[k] == persons[i]) {
                    return true;
                }
            }
            return false;
        }

        /** The next quarter passes: the first row behind those of it. */
        private int passRows(Village v, int[] lets, int row, int good) {
            for (int p = 0; p < v.people; p++) {
                wish[p] = scene.where[p];
            }
            int behind = row;
            while (behind < good && quarters[behind] == scene.passed) {
                wish[persons[behind]] = places[behind];
                behind++;
            }
            for (int p = 0; p < v.people; p++) {
                if (v.mustWork(p, scene.passed)) {
                    wish[p] = NONE;
                }
            }
            scene.goOn(v, lets, wish);
            return behind;
        }
    }
}
