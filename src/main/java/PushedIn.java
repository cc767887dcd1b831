/**
 * Who pushed in: doors in a yard nobody sees into, the comers that went in and came out,
 * and what can be told from that of who was served ahead of whom, and by which rule.
 * The words are those of the document; the parts inside follow its parts 1 to 5.
 */
public final class PushedIn {
    public static final int BAD = -1, NOT = -2, FULL = -3, STATE = -5, VOID = -2000000000;

    private static final int NOTHING_THERE = -11, OTHER_KIND = -12, NO_SUCH_PLACE = -13, SIZE_BELOW_0 = -14;

    private static final int MINUTES = 720, DOORS = 4, DAYS = 4, MATTERS = 6, SORTS = 8;
    private static final int LONGEST = 99, SLACKEST = 30;
    private static final int COMERS = 40, AWAYS = 12, TAPE = 60, RULES = 20, CHANGES = 40;
    private static final int NONE = -2, UNTOLD = -1, NO_NUMBER = -1, NOBODY = -1;
    private static final int NO_FAULT = -1, FAULTS = -100;

    /** What can be changed, undone and done again. */
    private static final int IN = 0, LEAST = 1, MOST = 2, SLACK = 3;

    /** How one passes another: the first two are the numbers that passed() takes. */
    private static final int SURELY = 0, MAY = 1, BY_TOLD = 2;

    private static final int KINDS = 8, ACTS = 4, TRACED = 24;
    private static final int FIRST = 1, NUMBER = 2, SORT = 3, QUICK = 4, LAST = 5, MIXED = 6, TOLD = 7;
    /** For each kind the one that it is under; none is above the first. */
    private static final int[] KIND_ABOVE = {-1, 0, 0, 1, 1, 0, 3, 0};

    private static final int PLACES = 6, ROW_SORTS = 5, LONGEST_ROW = 60;
    private static final int BYTES = 0, SHORTS = 1, INTS = 2, BOOLEANS = 4;
    private static final int FIVE = 5, MOST_FROM_ROW = 12;

    private final Yard yard;
    private final Tape tape;
    private final ComerReader reader;
    private final Changes changes;
    private final Passing passing;
    private final Rules rules;
    private final Survey survey;
    private final Acts acts;
    private final Places places;

    public PushedIn() {
        yard = new Yard();
        tape = new Tape();
        reader = new ComerReader(tape);
        changes = new Changes(yard);
        passing = new Passing(yard);
        rules = new Rules(yard, tape);
        survey = new Survey(yard);
        acts = new Acts();
        places = new Places();
    }

    // ---- the yard

    public int away(int door, int fromTo) {
        int from = fromTo / 1000;
        int to = fromTo % 1000;
        if (!within(door, DOORS) || fromTo < 0 || !within(to, MINUTES) || from > to) {
            return BAD;
        }
        if (yard.aways >= AWAYS) {
            return FULL;
        }
        yard.addAway(door, from, to);
        return yard.aways;
    }

    public int matter(int matter, int what, int v) {
        if (!within(matter, MATTERS) || !within(what, 2) || v < 1 || v > LONGEST) {
            return BAD;
        }
        if (what == 0) {
            return v > yard.most[matter] ? BAD : changes.make(LEAST, matter, v);
        }
        return v < yard.least[matter] ? BAD : changes.make(MOST, matter, v);
    }

    public int yard(int what, int v) {
        int was;
        switch (what) {
            case 0:
                if (!within(v, DAYS)) {
                    return BAD;
                }
                was = yard.day;
                yard.day = v;
                return was;
            case 1:
                return within(v, SLACKEST + 1) ? changes.make(SLACK, 0, v) : BAD;
            case 2:
                if (!within(v, 2)) {
                    return BAD;
                }
                was = yard.lineADoor ? 1 : 0;
                yard.lineADoor = v == 1;
                return was;
            default:
                return BAD;
        }
    }

    public int feed(int n, int v) {
        if (n < 1 || n > 4) {
            return BAD;
        }
        if (n > TAPE - tape.length) {
            return FULL;
        }
        tape.add(n, v);
        return tape.length;
    }

    public int comer() {
        if (yard.size >= COMERS) {
            return FULL;
        }
        int fault = reader.readInto(yard.comers[yard.size]);
        tape.clear();
        if (fault != NO_FAULT) {
            return FAULTS - fault;
        }
        yard.admit();
        return yard.size - 1;
    }

    public int comers(int place, int i, int n) {
        if (!within(place, PLACES) || n < 1 || n > MOST_FROM_ROW) {
            return BAD;
        }
        if (places.holdsNothing(place)) {
            return 0;
        }
        if (!places.holdsRowOf(place, SHORTS)) {
            return OTHER_KIND;
        }
        int came = 0;
        // Counted in longs, since i may stand close to the greatest int.
        long at = i;
        while (came < n && yard.size < COMERS && places.readFive(place, at, yard.comers[yard.size])) {
            yard.admit();
            came++;
            at += FIVE;
        }
        return came;
    }

    public int of(int comer, int what) {
        return yard.has(comer) ? yard.comers[comer].tell(what) : BAD;
    }

    public int came(int comer, int v) {
        if (!yard.has(comer) || !within(v, yard.comers[comer].out)) {
            return BAD;
        }
        return changes.make(IN, comer, v);
    }

    public int cant(int day) {
        if (!within(day, DAYS)) {
            return BAD;
        }
        for (int i = 0; i < yard.size; i++) {
            Comer c = yard.comers[i];
            if (c.day == day && !c.hasStarts()) {
                return i;
            }
        }
        return NOT;
    }

    // ---- who passed whom

    public int passed(int pq, int what) {
        int p = pq / 100;
        int q = pq % 100;
        if (!yard.has(p) || !yard.has(q) || p == q || !within(what, 2)) {
            return BAD;
        }
        Comer one = yard.comers[p];
        Comer other = yard.comers[q];
        if (one.day != other.day) {
            return BAD;
        }
        return passing.passes(one, other, what) ? 1 : 0;
    }

    public int pairs(int day, int what) {
        if (!within(day, DAYS) || !within(what, 2)) {
            return BAD;
        }
        return passing.passesOn(day, what);
    }

    public int start(int comer, int v) {
        if (!yard.has(comer) || v != UNTOLD && !within(v, MINUTES)) {
            return BAD;
        }
        yard.comers[comer].told = v;
        return 1;
    }

    public int judge(int day, int what) {
        if (!within(day, DAYS) || !within(what, 2)) {
            return BAD;
        }
        return what == 0 ? passing.firstMistold(day) : passing.passesOn(day, BY_TOLD);
    }

    public long whom(int comer) {
        return yard.has(comer) ? passing.passedBy(yard.comers[comer]) : BAD;
    }

    public int fewest(long told) {
        return passing.choose(told) ? passing.fewestAmongChosen() : BAD;
    }

    // ---- rules

    public int rule(int kind, int ab, int price) {
        if (!within(kind, KINDS) || !within(ab, 10000) || !within(price, 100)) {
            return BAD;
        }
        if (rules.size >= RULES) {
            return FULL;
        }
        rules.add(kind, ab / 100, ab % 100, price);
        return rules.size - 1;
    }

    public int text() {
        int fault = rules.readText();
        tape.clear();
        return fault == NO_FAULT ? 1 : FAULTS - fault;
    }

    public int next(int rule, int dd, int t) {
        int day = dd / 10;
        int door = dd % 10;
        if (!rules.has(rule) || !within(day, DAYS) || !within(door, DOORS) || !within(t, MINUTES)) {
            return BAD;
        }
        return rules.nextAt(rule, day, door, t);
    }

    public int breaks(int rule, int day, int i) {
        if (!rules.has(rule) || !within(day, DAYS) || i < -1) {
            return BAD;
        }
        return i == -1 ? rules.breaksOn(rule, day) : rules.breakOn(rule, day, i);
    }

    public int kept(int rule) {
        if (!rules.has(rule)) {
            return BAD;
        }
        int bits = 0;
        for (int day = 0; day < DAYS; day++) {
            if (yard.hasComersOn(day) && rules.breaksOn(rule, day) == 0) {
                bits |= 1 << day;
            }
        }
        return bits;
    }

    public int find(int what) {
        if (!within(what, 2)) {
            return BAD;
        }
        if (rules.size == 0) {
            return STATE;
        }
        int best = 0;
        int least = rules.costOf(0);
        for (int r = 1; r < rules.size; r++) {
            int cost = rules.costOf(r);
            if (cost < least) {
                best = r;
                least = cost;
            }
        }
        return what == 0 ? best : least;
    }

    public int led(int comer) {
        if (!yard.has(comer)) {
            return BAD;
        }
        int bits = 0;
        for (int r = 0; r < rules.size; r++) {
            if (rules.wasNext(r, comer)) {
                bits |= 1 << r;
            }
        }
        return bits;
    }

    // ---- lines, clerks, luck

    public int changed(int day, int i) {
        if (!within(day, DAYS) || i < -1) {
            return BAD;
        }
        // BAD is named ahead of STATE: one that is not there is BAD in a yard of one line, too.
        int answer = i == -1 ? survey.changedOn(day) : survey.changedOne(day, i);
        return answer != BAD && !yard.lineADoor ? STATE : answer;
    }

    public int idle(int dd, int what) {
        int day = dd / 10;
        int door = dd % 10;
        if (!within(day, DAYS) || !within(door, DOORS) || !within(what, 2)) {
            return BAD;
        }
        survey.lookForIdle(day, door);
        return what == 0 ? survey.idleMinutes : survey.firstIdle;
    }

    public int seldom(int ds, int seed, int n) {
        int day = ds / 10;
        int sort = ds % 10;
        if (!within(day, DAYS) || !within(sort, SORTS) || n < 1 || n > 200) {
            return BAD;
        }
        return survey.seldomOf(day, sort, seed, n);
    }

    public int along(int st, int day, int x) {
        int one = st / 10;
        int other = st % 10;
        if (!within(one, SORTS) || !within(other, SORTS) || !within(day, DAYS) || !within(x, 100)) {
            return BAD;
        }
        return survey.alongOf(one, other, day, x);
    }

    public int stand(int day, int what) {
        if (!within(day, DAYS) || !within(what, 2)) {
            return BAD;
        }
        int door = 0;
        int known = survey.unsureAt(day, 0);
        for (int d = 1; d < DOORS; d++) {
            int sum = survey.unsureAt(day, d);
            if (sum > known) {
                door = d;
                known = sum;
            }
        }
        return what == 0 ? door : known;
    }

    public int undo() {
        if (changes.done == 0) {
            return STATE;
        }
        changes.back();
        return changes.done;
    }

    public int redo() {
        if (changes.done == changes.size) {
            return STATE;
        }
        changes.again();
        return changes.size - changes.done;
    }

    // ---- acts, places

    public int act(int rule, int act, int x) {
        acts.forget();
        if (!rules.has(rule) || !within(act, ACTS)) {
            return 0;
        }
        return acts.perform(rule, rules.kinds[rule], act, x);
    }

    public int trace(int i) {
        return within(i, Math.min(acts.ran, TRACED)) ? acts.traced[i] : BAD;
    }

    public int keep(int place, int rule) {
        if (!within(place, PLACES) || rule != -1 && !rules.has(rule)) {
            return BAD;
        }
        if (rule == -1) {
            places.clear(place);
        } else {
            places.holdRule(place, rule);
        }
        return 1;
    }

    public int row(int place, int sort, int n) {
        if (!within(place, PLACES) || !within(sort, ROW_SORTS) || n > LONGEST_ROW) {
            return BAD;
        }
        if (n < 0) {
            return SIZE_BELOW_0;
        }
        places.holdRow(place, sort, n);
        return 1;
    }

    public int put(int place, int i, long v) {
        int refusal = places.refuses(place, i);
        if (refusal != 0) {
            return refusal;
        }
        places.cells[place][i] = places.narrowed(place, v);
        return 1;
    }

    public long element(int place, int i) {
        return places.refuses(place, i) == 0 ? places.cells[place][i] : Long.MIN_VALUE;
    }

    public int shift(int place, int i, int other, int j, int n) {
        int refusal = places.refusesBoth(place, other);
        if (refusal != 0) {
            return refusal;
        }
        if (!places.hasRange(place, i, n) || !places.hasRange(other, j, n)) {
            return NO_SUCH_PLACE;
        }
        System.arraycopy(places.cells[place], i, places.cells[other], j, n);
        return n;
    }

    public int taken(int place, int k) {
        if (!within(place, PLACES) || !within(k, KINDS)) {
            return BAD;
        }
        if (places.holdsNothing(place)) {
            return NOTHING_THERE;
        }
        int rule = places.ruleAt(place);
        if (!rules.has(rule) || !isUnder(rules.kinds[rule], k)) {
            return OTHER_KIND;
        }
        return rules.kinds[rule];
    }

    public int count(int what) {
        switch (what) {
            case 0:
                return yard.size;
            case 1:
                return rules.size;
            case 2:
                return tape.length;
            case 3:
                return yard.aways;
            case 4:
                return changes.done;
            case 5:
                return acts.ran;
            default:
                return BAD;
        }
    }

    private static boolean within(int v, int bound) {
        return v >= 0 && v < bound;
    }

    private static boolean isDigit(int sign) {
        return sign >= '0' && sign <= '9';
    }

    /** Whether a kind is another one, or under it. */
    private static boolean isUnder(int kind, int above) {
        int k = kind;
        for (int i = 0; i < KINDS && within(k, KINDS); i++) {
            if (k == above) {
                return true;
            }
            k = KIND_ABOVE[k];
        }
        return false;
    }

    /** Bytes that wait to become a comer or a text, and how far they were read. */
    private static final class Tape {
        private static final int END = -1;

        private final byte[] bytes = new byte[TAPE];
        private int place;
        int length;
        int fault;

        void add(int n, int v) {
            for (int i = 0; i < n && length < TAPE; i++) {
                bytes[length] = (byte) (v >>> (8 * i));
                length++;
            }
        }

        void clear() {
            length = 0;
        }

        void rewind() {
            place = 0;
            fault = NO_FAULT;
        }

        /** The sign that is to be read; the end, too, behind a fault: nothing goes on there. */
        int sign() {
            return fault == NO_FAULT && place < length ? bytes[place] & 255 : END;
        }

        boolean accept(int sign) {
            if (sign() != sign) {
                return false;
            }
            place++;
            return true;
        }

        /** Reads a number; one that may not be is a fault at its first digit. */
        int readNumber(int digits, int least, int most) {
            int first = place;
            int v = 0;
            for (int i = 0; i < digits && isDigit(sign()); i++) {
                v = v * 10 + sign() - '0';
                place++;
            }
            if (place == first || v < least || v > most) {
                place = first;
                stop();
            }
            return v;
        }

        /** The first fault is the one that counts. */
        void stop() {
            if (fault == NO_FAULT) {
                fault = place;
            }
        }
    }

    /** One that came in and came out, with what the yard works out of it. */
    private static final class Comer {
        int day;
        int in;
        int out;
        int door;
        int matter;
        int sort;
        int number;
        int line;
        int told;
        int ahead;
        int early;
        int late;

        boolean hasStarts() {
            return early != NONE;
        }

        boolean isStart(int t) {
            return hasStarts() && t >= early && t <= late;
        }

        /** The told start, the early one else; below 0 with neither. */
        int served() {
            return told == UNTOLD ? early : told;
        }

        int tell(int what) {
            switch (what) {
                case 0:
                    return day;
                case 1:
                    return in;
                case 2:
                    return out;
                case 3:
                    return door;
                case 4:
                    return matter;
                case 5:
                    return sort;
                case 6:
                    return number;
                case 7:
                    return line;
                case 8:
                    return ahead;
                case 9:
                    return early;
                case 10:
                    return late;
                default:
                    return BAD;
            }
        }
    }

    /** Reads the tape as a comer. */
    private static final class ComerReader {
        private final Tape tape;

        ComerReader(Tape tape) {
            this.tape = tape;
        }

        int readInto(Comer c) {
            tape.rewind();
            c.in = tape.readNumber(3, 0, MINUTES - 2);
            expect('-');
            c.out = tape.readNumber(3, c.in + 1, MINUTES - 1);
            expect('@');
            c.door = tape.readNumber(1, 0, DOORS - 1);
            expect('m');
            c.matter = tape.readNumber(1, 0, MATTERS - 1);
            expect('s');
            c.sort = tape.readNumber(1, 0, SORTS - 1);
            c.number = tape.accept('#') ? tape.readNumber(2, 0, 99) : NO_NUMBER;
            c.line = tape.accept('l') ? tape.readNumber(1, 0, DOORS - 1) : c.door;
            if (tape.sign() != Tape.END) {
                tape.stop();
            }
            return tape.fault;
        }

        private void expect(int sign) {
            if (!tape.accept(sign)) {
                tape.stop();
            }
        }
    }

    /** The comers, and what their starts hang on. */
    private static final class Yard {
        final Comer[] comers = new Comer[COMERS];
        int size;
        final int[] least = new int[MATTERS];
        final int[] most = new int[MATTERS];
        final int[] awayDoor = new int[AWAYS];
        final int[] awayFrom = new int[AWAYS];
        final int[] awayTo = new int[AWAYS];
        int aways;
        int day;
        int slack;
        boolean lineADoor;

        Yard() {
            for (int i = 0; i < COMERS; i++) {
                comers[i] = new Comer();
            }
            for (int m = 0; m < MATTERS; m++) {
                least[m] = 1;
                most[m] = 10;
            }
        }

        boolean has(int comer) {
            return within(comer, size);
        }

        boolean hasComersOn(int day) {
            for (int i = 0; i < size; i++) {
                if (comers[i].day == day) {
                    return true;
                }
            }
            return false;
        }

        /** Takes in the comer that was written behind the last one. */
        void admit() {
            if (size >= COMERS) {
                return;
            }
            comers[size].day = day;
            comers[size].told = UNTOLD;
            size++;
            settle();
        }

        void addAway(int door, int from, int to) {
            if (aways >= AWAYS) {
                return;
            }
            awayDoor[aways] = door;
            awayFrom[aways] = from;
            awayTo[aways] = to;
            aways++;
            settle();
        }

        boolean isAway(int door, int t) {
            for (int i = 0; i < aways; i++) {
                if (awayDoor[i] == door && awayFrom[i] <= t && t <= awayTo[i]) {
                    return true;
                }
            }
            return false;
        }

        /** Whether one stands where a door is served from. */
        boolean standsAt(Comer c, int door) {
            return !lineADoor || c.line == door;
        }

        int numberOf(int what, int which) {
            switch (what) {
                case IN:
                    return has(which) ? comers[which].in : 0;
                case LEAST:
                    return within(which, MATTERS) ? least[which] : 0;
                case MOST:
                    return within(which, MATTERS) ? most[which] : 0;
                default:
                    return slack;
            }
        }

        void become(int what, int which, int v) {
            if (what == IN && has(which)) {
                comers[which].in = v;
            } else if (what == LEAST && within(which, MATTERS)) {
                least[which] = v;
            } else if (what == MOST && within(which, MATTERS)) {
                most[which] = v;
            } else if (what == SLACK) {
                slack = v;
            }
            settle();
        }

        /** Worked out at each change, so that every question finds the starts as they are. */
        private void settle() {
            for (int i = 0; i < size; i++) {
                comers[i].ahead = oneAhead(i);
                settleStarts(comers[i]);
            }
        }

        private int oneAhead(int comer) {
            int ahead = NOBODY;
            Comer c = comers[comer];
            for (int i = 0; i < size; i++) {
                Comer o = comers[i];
                if (o.day == c.day && o.door == c.door && isBefore(i, comer)
                        && (ahead == NOBODY || isBefore(ahead, i))) {
                    ahead = i;
                }
            }
            return ahead;
        }

        private boolean isBefore(int one, int other) {
            int out = comers[one].out;
            int otherOut = comers[other].out;
            return out < otherOut || out == otherOut && one < other;
        }

        /** The starts are without gaps: what bars one (an absence, too) bars all ahead of it. */
        private void settleStarts(Comer c) {
            int early = Math.max(Math.max(0, c.in - slack), c.out - most[c.matter]);
            if (c.ahead != NOBODY) {
                early = Math.max(early, comers[c.ahead].out);
            }
            for (int i = 0; i < aways; i++) {
                if (awayDoor[i] == c.door && awayFrom[i] < c.out) {
                    early = Math.max(early, awayTo[i] + 1);
                }
            }
            int late = c.out - least[c.matter];
            c.early = early <= late ? early : NONE;
            c.late = early <= late ? late : NONE;
        }
    }

    /** The changes that may be undone, and behind them those that may be done again. */
    private static final class Changes {
        private final Yard yard;
        private final int[] what = new int[CHANGES];
        private final int[] which = new int[CHANGES];
        private final int[] before = new int[CHANGES];
        private final int[] after = new int[CHANGES];
        int done;
        int size;

        Changes(Yard yard) {
            this.yard = yard;
        }

        int make(int kind, int of, int v) {
            int was = yard.numberOf(kind, of);
            if (was == v) {
                return was;
            }
            if (done >= CHANGES) {
                dropOldest();
            }
            what[done] = kind;
            which[done] = of;
            before[done] = was;
            after[done] = v;
            done++;
            size = done;
            yard.become(kind, of, v);
            return was;
        }

        void back() {
            if (done > 0) {
                done--;
                yard.become(what[done], which[done], before[done]);
            }
        }

        void again() {
            if (done < size) {
                yard.become(what[done], which[done], after[done]);
                done++;
            }
        }

        private void dropOldest() {
            done = CHANGES - 1;
            System.arraycopy(what, 1, what, 0, done);
            System.arraycopy(which, 1, which, 0, done);
            System.arraycopy(before, 1, before, 0, done);
            System.arraycopy(after, 1, after, 0, done);
        }
    }

    /** Who passed whom. */
    private static final class Passing {
        private static final int MOST_CHOSEN = 6, SETS = 64, NO_WAY = 1000;

        private final Yard yard;
        private final int[] chosen = new int[MOST_CHOSEN];
        private final int[] passers = new int[MOST_CHOSEN];
        private final int[] fewest = new int[SETS];
        private int size;

        Passing(Yard yard) {
            this.yard = yard;
        }

        boolean passes(Comer p, Comer q, int how) {
            if (!couldPass(p, q)) {
                return false;
            }
            if (how == BY_TOLD) {
                return p.served() >= 0 && p.served() < q.served();
            }
            if (!p.hasStarts() || !q.hasStarts()) {
                return false;
            }
            return how == SURELY ? p.late < q.early : p.early < q.late;
        }

        int passesOn(int day, int how) {
            int n = 0;
            for (int p = 0; p < yard.size; p++) {
                for (int q = 0; q < yard.size; q++) {
                    if (yard.comers[p].day == day && passes(yard.comers[p], yard.comers[q], how)) {
                        n++;
                    }
                }
            }
            return n;
        }

        long passedBy(Comer p) {
            long bits = 0;
            for (int q = 0; q < yard.size; q++) {
                if (passes(p, yard.comers[q], BY_TOLD)) {
                    bits |= 1L << q;
                }
            }
            return bits;
        }

        int firstMistold(int day) {
            for (int i = 0; i < yard.size; i++) {
                Comer c = yard.comers[i];
                if (c.day == day && c.told != UNTOLD && !c.isStart(c.told)) {
                    return i;
                }
            }
            return NOT;
        }

        /** Whether the bits tell comers whose fewest passes can be asked for. */
        boolean choose(long told) {
            size = 0;
            if (told >>> yard.size != 0) {
                return false;
            }
            for (int i = 0; i < yard.size; i++) {
                if ((told >>> i & 1) != 0) {
                    Comer c = yard.comers[i];
                    if (size >= MOST_CHOSEN || !c.hasStarts() || c.day != yard.comers[chosenAt(0, i)].day) {
                        return false;
                    }
                    chosen[size] = i;
                    size++;
                }
            }
            return size > 0;
        }

        /**
         * Starts matter only by their order: in a given order each starts as early as those ahead
         * of it let it, which must not be too late for it. So the fewest passes of a set are those
         * of the set without its last one, and those over this last one.
         */
        int fewestAmongChosen() {
            for (int i = 0; i < size; i++) {
                passers[i] = passersOf(i);
            }
            int sets = 1 << size;
            fewest[0] = 0;
            for (int set = 1; set < sets && set < SETS; set++) {
                int latestEarly = latestEarlyOf(set);
                fewest[set] = NO_WAY;
                for (int last = 0; last < size; last++) {
                    int rest = set & ~(1 << last);
                    if (rest != set && latestEarly <= yard.comers[chosen[last]].late) {
                        int n = fewest[rest] + Integer.bitCount(rest & passers[last]);
                        fewest[set] = Math.min(fewest[set], n);
                    }
                }
            }
            return fewest[sets - 1];
        }

        private int chosenAt(int i, int otherwise) {
            return i < size ? chosen[i] : otherwise;
        }

        private int passersOf(int q) {
            int bits = 0;
            for (int p = 0; p < size; p++) {
                if (couldPass(yard.comers[chosen[p]], yard.comers[chosen[q]])) {
                    bits |= 1 << p;
                }
            }
            return bits;
        }

        private int latestEarlyOf(int set) {
            int latest = 0;
            for (int i = 0; i < size; i++) {
                if ((set >> i & 1) != 0) {
                    latest = Math.max(latest, yard.comers[chosen[i]].early);
                }
            }
            return latest;
        }

        /** Whether p came in later than q and stood where q did. */
        private boolean couldPass(Comer p, Comer q) {
            return p.day == q.day && (!yard.lineADoor || p.line == q.line)
                    && p.in - yard.slack > q.in + yard.slack;
        }
    }

    /** The rules by which one should have been next. */
    private static final class Rules {
        private final Yard yard;
        private final int[] names = new int[Text.NAMES.length()];
        private final int[] as = new int[RULES];
        private final int[] bs = new int[RULES];
        private final int[] prices = new int[RULES];
        private Text text;
        private Text draft;
        final int[] kinds = new int[RULES];
        int size;

        Rules(Yard yard, Tape tape) {
            this.yard = yard;
            text = new Text(tape);
            draft = new Text(tape);
        }

        boolean has(int rule) {
            return within(rule, size);
        }

        void add(int kind, int a, int b, int price) {
            if (size < RULES) {
                kinds[size] = kind;
                as[size] = a;
                bs[size] = b;
                prices[size] = price;
                size++;
            }
        }

        /** Read into the draft, so that a faulty text leaves the one told before. */
        int readText() {
            int fault = draft.read();
            if (fault == NO_FAULT) {
                Text older = text;
                text = draft;
                draft = older;
            }
            return fault;
        }

        int nextAt(int rule, int day, int door, int t) {
            int best = NOT;
            int bestScore = 0;
            for (int i = 0; i < yard.size; i++) {
                Comer c = yard.comers[i];
                if (c.day == day && c.in <= t && c.served() >= t && yard.standsAt(c, door)) {
                    int score = scoreOf(rule, c, door, t);
                    if (best == NOT || score > bestScore
                            || score == bestScore && c.in < yard.comers[best].in) {
                        best = i;
                        bestScore = score;
                    }
                }
            }
            return best;
        }

        boolean wasNext(int rule, int comer) {
            Comer c = yard.comers[comer];
            return c.served() >= 0 && nextAt(rule, c.day, c.door, c.served()) == comer;
        }

        int breaksOn(int rule, int day) {
            int n = 0;
            for (int i = 0; i < yard.size; i++) {
                if (yard.comers[i].day == day && isBreak(rule, i)) {
                    n++;
                }
            }
            return n;
        }

        int breakOn(int rule, int day, int nth) {
            int n = 0;
            for (int i = 0; i < yard.size; i++) {
                if (yard.comers[i].day == day && isBreak(rule, i)) {
                    if (n == nth) {
                        return i;
                    }
                    n++;
                }
            }
            return BAD;
        }

        int costOf(int rule) {
            int n = 0;
            for (int i = 0; i < yard.size; i++) {
                if (isBreak(rule, i)) {
                    n++;
                }
            }
            return 10 * n + prices[rule];
        }

        /** A told start alone makes no break: one that has no starts was not served. */
        private boolean isBreak(int rule, int comer) {
            Comer c = yard.comers[comer];
            return c.hasStarts() && nextAt(rule, c.day, c.door, c.served()) != comer;
        }

        private int scoreOf(int rule, Comer c, int door, int t) {
            int ofSort = c.sort == as[rule] ? 1 : 0;
            switch (kinds[rule]) {
                case NUMBER:
                    return c.number == NO_NUMBER ? 0 : 99 - c.number;
                case SORT:
                    return ofSort;
                case QUICK:
                    return 99 - yard.least[c.matter];
                case LAST:
                    return c.in;
                case MIXED:
                    return t - c.in >= bs[rule] ? 2 : ofSort;
                case TOLD:
                    return scoreByText(rule, c, door, t);
                default:
                    return 0;
            }
        }

        /** The names stand in the order of Text.NAMES. */
        private int scoreByText(int rule, Comer c, int door, int t) {
            names[0] = t - c.in;
            names[1] = c.sort;
            names[2] = c.matter;
            names[3] = yard.least[c.matter];
            names[4] = c.number == NO_NUMBER ? 0 : c.number;
            names[5] = c.line == door ? 1 : 0;
            names[6] = as[rule];
            names[7] = bs[rule];
            return text.worth(names);
        }
    }

    /**
     * A rule as a text: read from the tape into steps on a stack of ints, in which each
     * sign stands behind what it joins.
     */
    private static final class Text {
        static final String NAMES = "wsmlndab";
        private static final int OPEN = 6, NO_NAME = -1;
        /** Each byte of the tape makes one step at most, and the last line's end one more. */
        private static final int STEPS = TAPE + 1;
        /** Steps that have no sign of their own; a line's end is ';', a condition '?'. */
        private static final int VALUE = 'V', NAME = 'N', MINUS = 'M';

        private final Tape tape;
        private final int[] signs = new int[STEPS];
        private final int[] numbers = new int[STEPS];
        private final int[] stack = new int[STEPS];
        private int steps;

        Text(Tape tape) {
            this.tape = tape;
        }

        int read() {
            steps = 0;
            tape.rewind();
            readLine();
            for (int i = 0; i < TAPE && tape.accept(';'); i++) {
                readLine();
            }
            if (tape.sign() != Tape.END) {
                tape.stop();
            }
            return tape.fault;
        }

        /** What the first line that counts is worth. */
        int worth(int[] names) {
            int top = 0;
            int at = 0;
            for (int i = 0; i < STEPS && at < steps; i++) {
                int sign = signs[at];
                int number = numbers[at];
                at++;
                if (top < STEPS && (sign == VALUE || sign == NAME)) {
                    stack[top] = sign == VALUE ? number : names[number];
                    top++;
                } else if (top > 0 && sign == ';') {
                    return stack[top - 1];
                } else if (top > 0 && sign == '?') {
                    top--;
                    at = stack[top] == 0 ? number : at;
                } else if (top > 0 && sign == MINUS) {
                    stack[top - 1] = -stack[top - 1];
                } else if (top > 0 && sign == '!') {
                    stack[top - 1] = stack[top - 1] == 0 ? 1 : 0;
                } else if (top > 1) {
                    top--;
                    stack[top - 1] = joined(sign, stack[top - 1], stack[top]);
                }
            }
            return 0;
        }

        private static int joined(int sign, int x, int y) {
            switch (sign) {
                case '|':
                    return x != 0 || y != 0 ? 1 : 0;
                case '&':
                    return x != 0 && y != 0 ? 1 : 0;
                case '<':
                    return x < y ? 1 : 0;
                case '=':
                    return x == y ? 1 : 0;
                case '>':
                    return x > y ? 1 : 0;
                case '+':
                    return x + y;
                case '-':
                    return x - y;
                case '*':
                    return x * y;
                case '/':
                    return y == 0 ? 0 : x / y;
                default:
                    return y == 0 ? 0 : x % y;
            }
        }

        private void readLine() {
            readEither(0);
            int condition = steps;
            if (!tape.accept('?')) {
                addStep(';', 0);
                return;
            }
            addStep('?', 0);
            readEither(0);
            addStep(';', 0);
            if (condition < STEPS) {
                numbers[condition] = steps;
            }
        }

        private void readEither(int open) {
            readBoth(open);
            for (int i = 0; i < TAPE && tape.accept('|'); i++) {
                readBoth(open);
                addStep('|', 0);
            }
        }

        private void readBoth(int open) {
            readCompared(open);
            for (int i = 0; i < TAPE && tape.accept('&'); i++) {
                readCompared(open);
                addStep('&', 0);
            }
        }

        private void readCompared(int open) {
            readSum(open);
            int sign = tape.sign();
            if (tape.accept('<') || tape.accept('=') || tape.accept('>')) {
                readSum(open);
                addStep(sign, 0);
            }
        }

        private void readSum(int open) {
            readProduct(open);
            int sign = tape.sign();
            for (int i = 0; i < TAPE && (tape.accept('+') || tape.accept('-')); i++) {
                readProduct(open);
                addStep(sign, 0);
                sign = tape.sign();
            }
        }

        private void readProduct(int open) {
            readOperand(open);
            int sign = tape.sign();
            for (int i = 0; i < TAPE && (tape.accept('*') || tape.accept('/') || tape.accept('%')); i++) {
                readOperand(open);
                addStep(sign, 0);
                sign = tape.sign();
            }
        }

        private void readOperand(int open) {
            int sign = tape.sign();
            int name = sign == Tape.END ? NO_NAME : NAMES.indexOf((char) sign);
            if (isDigit(sign)) {
                addStep(VALUE, tape.readNumber(4, 0, 9999));
            } else if (name != NO_NAME) {
                tape.accept(sign);
                addStep(NAME, name);
            } else if (open >= OPEN) {
                tape.stop();
            } else if (tape.accept('(')) {
                readEither(open + 1);
                if (!tape.accept(')')) {
                    tape.stop();
                }
            } else if (tape.accept('!') || tape.accept('-')) {
                readOperand(open + 1);
                addStep(sign == '-' ? MINUS : sign, 0);
            } else {
                tape.stop();
            }
        }

        private void addStep(int sign, int number) {
            if (steps < STEPS) {
                signs[steps] = sign;
                numbers[steps] = number;
                steps++;
            }
        }
    }

    /** Lines that were changed, clerks that were idle, luck, company, and where to stand. */
    private static final class Survey {
        private final Yard yard;
        private final int[] waits = new int[COMERS];
        private final int[] sorts = new int[COMERS];
        private int drawn;
        private int seed;
        int idleMinutes;
        int firstIdle;

        Survey(Yard yard) {
            this.yard = yard;
        }

        int changedOn(int day) {
            int n = 0;
            for (int i = 0; i < yard.size; i++) {
                if (isChanged(yard.comers[i], day)) {
                    n++;
                }
            }
            return n;
        }

        int changedOne(int day, int nth) {
            int n = 0;
            for (int i = 0; i < yard.size; i++) {
                if (isChanged(yard.comers[i], day)) {
                    if (n == nth) {
                        return i;
                    }
                    n++;
                }
            }
            return BAD;
        }

        private boolean isChanged(Comer c, int day) {
            return c.day == day && c.line != c.door;
        }

        void lookForIdle(int day, int door) {
            idleMinutes = 0;
            firstIdle = NOT;
            for (int i = 0; i < yard.size; i++) {
                Comer c = yard.comers[i];
                if (c.day == day && c.door == door && c.hasStarts() && yard.has(c.ahead)) {
                    lookAheadOf(c);
                }
            }
        }

        private void lookAheadOf(Comer c) {
            for (int t = yard.comers[c.ahead].out; t < c.late; t++) {
                if (!yard.isAway(c.door, t) && someWaited(c.day, c.door, t)) {
                    idleMinutes++;
                    if (firstIdle == NOT || t < firstIdle) {
                        firstIdle = t;
                    }
                }
            }
        }

        private boolean someWaited(int day, int door, int t) {
            for (int i = 0; i < yard.size; i++) {
                Comer c = yard.comers[i];
                if (c.day == day && c.in + yard.slack <= t && c.early > t && yard.standsAt(c, door)) {
                    return true;
                }
            }
            return false;
        }

        int seldomOf(int day, int sort, int seedTold, int n) {
            gather(day);
            seed = seedTold;
            int now = waitOf(sort);
            int times = 0;
            for (int i = 0; i < n; i++) {
                drawAbout();
                if (waitOf(sort) >= now) {
                    times++;
                }
            }
            return times;
        }

        /** One with neither start is drawn about with a wait of 0, which counts for nothing. */
        private void gather(int day) {
            drawn = 0;
            for (int i = 0; i < yard.size; i++) {
                Comer c = yard.comers[i];
                if (c.day == day) {
                    waits[drawn] = c.served() < 0 ? 0 : c.served() - c.in;
                    sorts[drawn] = c.sort;
                    drawn++;
                }
            }
        }

        private void drawAbout() {
            for (int i = drawn - 1; i > 0; i--) {
                seed = seed * 1103515245 + 12345;
                int j = (seed >>> 8) % (i + 1);
                int sort = sorts[i];
                sorts[i] = sorts[j];
                sorts[j] = sort;
            }
        }

        private int waitOf(int sort) {
            int sum = 0;
            for (int i = 0; i < drawn; i++) {
                if (sorts[i] == sort) {
                    sum += waits[i];
                }
            }
            return sum;
        }

        int alongOf(int one, int other, int day, int x) {
            int n = 0;
            for (int i = 0; i < yard.size; i++) {
                for (int j = 0; j < i; j++) {
                    Comer c = yard.comers[i];
                    Comer d = yard.comers[j];
                    boolean company = c.day == day && d.day == day && c.door == d.door
                            && Math.abs(c.out - d.out) <= x;
                    if (company && (c.sort == one && d.sort == other || c.sort == other && d.sort == one)) {
                        n++;
                    }
                }
            }
            return n;
        }

        /** How many minutes the starts at a door leave open. */
        int unsureAt(int day, int door) {
            int sum = 0;
            for (int i = 0; i < yard.size; i++) {
                Comer c = yard.comers[i];
                if (c.day == day && c.door == door && c.hasStarts()) {
                    sum += c.late - c.early;
                }
            }
            return sum;
        }
    }

    /** The acts of rules, each by the body of its kind or of the next kind above that has one. */
    private static final class Acts {
        private static final int PICKS = 0, HOLDS = 1, COSTS = 2, TELLS = 3;
        private static final int DEEPEST = 40;
        /** For each kind the numbers of its bodies, by acts; 0: it has none. */
        private static final int[] BODIES = {
            1, 10, 11, 2,
            20, 0, 0, 0,
            0, 0, 30, 0,
            0, 40, 0, 0,
            50, 0, 0, 0,
            0, 0, 0, 60,
            71, 70, 0, 0,
            0, 0, 80, 0
        };

        final int[] traced = new int[TRACED];
        int ran;
        private int number;
        private int kind;

        void forget() {
            ran = 0;
        }

        int perform(int rule, int kindOfRule, int act, int x) {
            number = rule;
            kind = kindOfRule;
            return own(act, x, 0);
        }

        private int own(int act, int x, int depth) {
            return runFrom(kind, act, x, depth);
        }

        private int above(int kindOfBody, int act, int x, int depth) {
            return runFrom(KIND_ABOVE[kindOfBody], act, x, depth);
        }

        private int runFrom(int from, int act, int x, int depth) {
            int k = from;
            for (int i = 0; i < KINDS && within(k, KINDS) && BODIES[k * ACTS + act] == 0; i++) {
                k = KIND_ABOVE[k];
            }
            if (!within(k, KINDS) || depth > DEEPEST) {
                return 0;
            }
            int body = BODIES[k * ACTS + act];
            if (ran < TRACED) {
                traced[ran] = body;
            }
            ran++;
            return runBody(body, x, depth + 1);
        }

        private int runBody(int body, int x, int depth) {
            switch (body) {
                case 1:
                    return x + number;
                case 2:
                    return own(HOLDS, x, depth) - own(COSTS, 1, depth);
                case 10:
                    return own(PICKS, x, depth) * 2;
                case 11:
                    return x ^ number;
                case 20:
                    return above(FIRST, PICKS, x, depth) + 3;
                case 30:
                    return above(NUMBER, COSTS, x, depth) * 3;
                case 40:
                    return -above(SORT, HOLDS, x, depth);
                case 50:
                    return above(QUICK, PICKS, x + 1, depth);
                case 60:
                    return above(LAST, TELLS, x, depth) ^ 5;
                case 70:
                    return above(MIXED, HOLDS, x, depth) - own(COSTS, 2, depth);
                case 71:
                    return above(MIXED, PICKS, x, depth) * 2;
                case 80:
                    return above(TOLD, COSTS, x, depth) + own(PICKS, 1, depth);
                default:
                    return 0;
            }
        }
    }

    /** Places for a rule or a row. Every place has its cells from the first, whatever it holds. */
    private static final class Places {
        private static final int HOLDS_NOTHING = -1, HOLDS_RULE = -2, NO_RULE = -1;

        /** The sort of a held row, or one of the two numbers above. */
        private final int[] holds = new int[PLACES];
        private final int[] rule = new int[PLACES];
        private final int[] length = new int[PLACES];
        final long[][] cells = new long[PLACES][LONGEST_ROW];

        Places() {
            for (int p = 0; p < PLACES; p++) {
                holds[p] = HOLDS_NOTHING;
            }
        }

        boolean holdsNothing(int place) {
            return holds[place] == HOLDS_NOTHING;
        }

        boolean holdsRowOf(int place, int sort) {
            return holds[place] == sort;
        }

        int ruleAt(int place) {
            return holds[place] == HOLDS_RULE ? rule[place] : NO_RULE;
        }

        void clear(int place) {
            holds[place] = HOLDS_NOTHING;
        }

        void holdRule(int place, int number) {
            holds[place] = HOLDS_RULE;
            rule[place] = number;
        }

        void holdRow(int place, int sort, int n) {
            holds[place] = sort;
            length[place] = n;
            for (int i = 0; i < LONGEST_ROW; i++) {
                cells[place][i] = 0;
            }
        }

        /** Why an element can't be had: 0 if it can. */
        int refuses(int place, int i) {
            int refusal = refusesBoth(place, place);
            if (refusal != 0) {
                return refusal;
            }
            return within(i, length[place]) ? 0 : NO_SUCH_PLACE;
        }

        /** Why two places are no rows of one sort: 0 if they are. */
        int refusesBoth(int place, int other) {
            if (!within(place, PLACES) || !within(other, PLACES)) {
                return BAD;
            }
            if (holdsNothing(place) || holdsNothing(other)) {
                return NOTHING_THERE;
            }
            return holds[place] == HOLDS_RULE || holds[place] != holds[other] ? OTHER_KIND : 0;
        }

        /** Asked as length less n, since i and n together may be above the greatest int. */
        boolean hasRange(int place, int i, int n) {
            return n >= 0 && i >= 0 && i <= length[place] - n;
        }

        long narrowed(int place, long v) {
            switch (holds[place]) {
                case BYTES:
                    return (byte) v;
                case SHORTS:
                    return (short) v;
                case INTS:
                    return (int) v;
                case BOOLEANS:
                    return v != 0 ? 1 : 0;
                default:
                    return v;
            }
        }

        /** Whether the five elements from a place on are a comer, which they become then. */
        boolean readFive(int place, long at, Comer c) {
            if (at < 0 || at > length[place] - FIVE) {
                return false;
            }
            long[] five = cells[place];
            int i = (int) at;
            c.in = (int) five[i];
            c.out = (int) five[i + 1];
            c.door = (int) five[i + 2];
            c.matter = (int) five[i + 3];
            c.sort = (int) five[i + 4];
            c.number = NO_NUMBER;
            c.line = c.door;
            return c.in >= 0 && c.in < c.out && c.out < MINUTES && within(c.door, DOORS)
                    && within(c.matter, MATTERS) && within(c.sort, SORTS);
        }
    }
}
