import java.util.Arrays;

/**
 * Dinners of a club: plans of tables, the texts that judge them, the searches that complete them, and what goes from
 * table to table. Every row is made with the object and used again, so that no call makes anything.
 */
public final class DinnerRounds {
    public static final int NONE = -1;

    private static final int TOO_FEW = -2;
    private static final int NO_COST = -10000000;
    private static final int LEAST_GUESTS = 4;
    private static final int MOST_GUESTS = 12;
    private static final int MOST_RENAMED = 8;
    private static final int LEAST_SEATS = 2;
    private static final int MOST_SEATS = 6;
    private static final int PLANS = 3;
    private static final int MOST_TABLES = 60;
    private static final int EVENINGS = 12;
    private static final int SIDES = 4;
    private static final int MOST_AGE = 99;
    private static final int MOST_READ = 40;
    private static final int LAST_DAY = 999;
    private static final int MOST_DAYS = 99;
    private static final int MOST_RULES = 4;
    private static final int MOST_BYTES = 300;
    private static final int FED_BYTES = 20;
    private static final int MOST_TRIES = 20000;
    private static final int MOST_MEETS = 9;
    private static final int MOST_ILL = 9;

    private final State now;
    private final State kept;
    private final Tape tape;
    private final Rule[] rules;
    private final Judge judge;
    private final Completer completer;
    private final Parter parter;
    private final Renamer renamer;
    private final Seater seater;
    private final Spread spread;

    public DinnerRounds(int n) {
        int guests = Math.max(LEAST_GUESTS, Math.min(MOST_GUESTS, n));
        now = new State(guests);
        kept = new State(guests);
        tape = new Tape();
        rules = new Rule[MOST_RULES];
        for (int i = 0; i < MOST_RULES; i++) {
            rules[i] = new Rule();
        }
        judge = new Judge(now, rules);
        completer = new Completer(now, judge);
        parter = new Parter(now);
        renamer = new Renamer(guests);
        seater = new Seater(now, judge);
        spread = new Spread(now);
    }

    public boolean guest(int guest, int side, int age) {
        if (!isGuest(guest) || !within(side, 0, SIDES - 1) || !within(age, 0, MOST_AGE)) {
            return false;
        }
        now.sides[guest] = side;
        now.ages[guest] = age;
        return true;
    }

    public boolean quarrel(int one, int other, boolean is) {
        if (!isPair(one, other)) {
            return false;
        }
        now.setFoes(one, other, is);
        now.setFoes(other, one, is);
        return true;
    }

    public int table(int plan, int evening, int set) {
        if (!isPlan(plan) || !isEveningOrNone(evening) || !isSet(set)) {
            return NONE;
        }
        Plan at = now.plans[plan];
        if (at.size >= MOST_TABLES || (evening != NONE && (at.guestsIn(evening) & set) != 0)) {
            return NONE;
        }
        at.put(set, evening);
        return at.size - 1;
    }

    public boolean clear(int plan, int table) {
        if (!isTable(plan, table)) {
            return false;
        }
        now.plans[plan].take(table);
        return true;
    }

    public int copy(int from, int to) {
        if (!isPlan(from) || !isPlan(to)) {
            return NONE;
        }
        now.plans[to].become(now.plans[from]);
        return now.plans[to].size;
    }

    public int at(int plan, int table, int what) {
        if (!isTable(plan, table)) {
            return NONE;
        }
        switch (what) {
            case 0: return now.plans[plan].sets[table];
            case 1: return now.plans[plan].evenings[table];
            default: return NONE;
        }
    }

    public int meet(int plan, int one, int other) {
        if (!isPlan(plan) || !isPair(one, other)) {
            return NONE;
        }
        return now.plans[plan].meets[one * MOST_GUESTS + other];
    }

    public int miss(int plan, int l) {
        if (!isPlan(plan) || !within(l, 0, MOST_TABLES)) {
            return NONE;
        }
        return now.plans[plan].missBy(l, now.n);
    }

    public int counts(int v, int k, int l, int what) {
        if (!within(v, 3, 200) || !within(k, 2, v - 1) || !within(l, 1, 50)) {
            return NONE;
        }
        int each = l * (v - 1) / (k - 1);
        switch (what) {
            case 0: return barredBy(v, k, l, each);
            case 1: return each;
            case 2: return v * each / k;
            default: return NONE;
        }
    }

    private static int barredBy(int v, int k, int l, int each) {
        if (l * (v - 1) % (k - 1) != 0) {
            return 1;
        }
        if (v * each % k != 0) {
            return 2;
        }
        if (v * each / k < v) {
            return 3;
        }
        return v % k != 0 ? 4 : 0;
    }

    public int feed(int a, int b, int c, int d, int e) {
        if (tape.length + FED_BYTES > MOST_BYTES) {
            return NONE;
        }
        tape.add(a);
        tape.add(b);
        tape.add(c);
        tape.add(d);
        tape.add(e);
        return tape.length;
    }

    public int end(int n) {
        if (!within(n, 0, tape.length)) {
            return NONE;
        }
        tape.length = n;
        return n;
    }

    public int rule() {
        if (now.rules >= MOST_RULES) {
            return NONE;
        }
        // The place behind the last rule is nobody's, so a text that has a fault may be left there.
        boolean sound = tape.compile(rules[now.rules]);
        tape.length = 0;
        if (!sound) {
            return NONE;
        }
        now.rules++;
        return now.rules - 1;
    }

    public int fault(int what) {
        switch (what) {
            case 0: return tape.fault;
            case 1: return tape.place;
            default: return NONE;
        }
    }

    public boolean by(int plan, int rule) {
        if (!isPlan(plan) || !within(rule, NONE, now.rules - 1)) {
            return false;
        }
        now.plans[plan].law = rule;
        return true;
    }

    public int judged(int plan, int set, int what) {
        if (!isPlan(plan) || !isSet(set) || !within(what, 0, 1)) {
            return NO_COST;
        }
        judge.weigh(now.plans[plan], set);
        if (what == 1) {
            return judge.cost;
        }
        return judge.barred ? 1 : 0;
    }

    public int complete(int plan, int k, int l, int tries) {
        if (!isPlan(plan) || !isSize(k) || !within(l, 1, MOST_MEETS) || !within(tries, 1, MOST_TRIES)) {
            return NONE;
        }
        int came = completer.run(now.plans[plan], k, l, tries);
        now.tries = completer.tried;
        return came;
    }

    public int part(int plan, int tries) {
        if (!isPlan(plan) || !within(tries, 1, MOST_TRIES)) {
            return NONE;
        }
        int began = parter.run(now.plans[plan], tries);
        now.tries = parter.tried;
        return began;
    }

    public int tries() {
        return now.tries;
    }

    public int renamed(int plan, int guest) {
        if (!isPlan(plan) || !isGuestOrNone(guest) || now.n > MOST_RENAMED) {
            return NONE;
        }
        Plan of = now.plans[plan];
        return guest == NONE ? renamer.howMany(of) : renamer.lowestFor(of, guest);
    }

    public int like(int one, int other) {
        if (!isPlan(one) || !isPlan(other) || now.n > MOST_RENAMED) {
            return NONE;
        }
        return renamer.makes(now.plans[one], now.plans[other]) ? 1 : 0;
    }

    public int cheapest(int plan, int k, int guest) {
        if (!isPlan(plan) || !isSize(k) || !isGuestOrNone(guest) || !seater.finds(now.plans[plan], k)) {
            return NO_COST;
        }
        return guest == NONE ? seater.leastCost() : seater.setWith(guest, k);
    }

    public int sit(int plan, int k, int evening) {
        if (!isPlan(plan) || !isSize(k) || !isEvening(evening)) {
            return NONE;
        }
        Plan at = now.plans[plan];
        if (at.guestsIn(evening) != 0 || at.size + now.n / k > MOST_TABLES || !seater.finds(at, k)) {
            return NONE;
        }
        return seater.seat(at, k, evening);
    }

    public boolean change(int plan, int evening, int one, int other) {
        if (!isPlan(plan) || !isEvening(evening) || !isPair(one, other)) {
            return false;
        }
        return now.plans[plan].swap(evening, one, other);
    }

    public int best(int plan, int evening, int l, int what) {
        if (!isPlan(plan) || !isEvening(evening) || !within(l, 0, MOST_TABLES)) {
            return NONE;
        }
        Plan in = now.plans[plan];
        int least = in.missBy(l, now.n);
        int lower = NONE;
        int higher = NONE;
        for (int one = 0; one < now.n; one++) {
            for (int other = one + 1; other < now.n; other++) {
                int behind = missBehind(in, evening, l, one, other);
                if (behind != NONE && behind < least) {
                    least = behind;
                    lower = one;
                    higher = other;
                }
            }
        }
        switch (what) {
            case 0: return lower;
            case 1: return higher;
            case 2: return lower == NONE ? NONE : least;
            default: return NONE;
        }
    }

    private int missBehind(Plan in, int evening, int l, int one, int other) {
        if (!in.swap(evening, one, other)) {
            return NONE;
        }
        int missed = in.missBy(l, now.n);
        in.swap(evening, one, other);
        return missed;
    }

    public int knows(int plan, int guest, int s, int evening) {
        if (!isPlan(plan) || !isGuest(guest) || !isEvening(s) || !within(evening, s, EVENINGS - 1)) {
            return NONE;
        }
        spread.seatAll(now.plans[plan]);
        spread.follow(guest, s);
        return spread.knowing[evening];
    }

    public int all(int plan, int guest, int s) {
        if (!isPlan(plan) || !isGuest(guest) || !isEvening(s)) {
            return NONE;
        }
        spread.seatAll(now.plans[plan]);
        spread.follow(guest, s);
        for (int evening = s; evening < EVENINGS; evening++) {
            if (spread.knowing[evening] == now.everyone()) {
                return evening;
            }
        }
        return NONE;
    }

    public int ill(int plan, int guest, int s, int d, int evening) {
        if (!isPlan(plan) || !isGuest(guest) || !isEvening(s) || !within(d, 1, MOST_ILL)
                || !within(evening, s, EVENINGS - 1)) {
            return NONE;
        }
        spread.seatAll(now.plans[plan]);
        return spread.illIn(guest, s, d, evening);
    }

    public int days(int n) {
        if (!within(n, 1, MOST_DAYS) || now.clock + n > LAST_DAY) {
            return NONE;
        }
        now.clock += n;
        return now.clock;
    }

    public int read(int guest, int evening, boolean knew) {
        if (!isGuest(guest) || !isEvening(evening) || now.reads >= MOST_READ) {
            return NONE;
        }
        now.addRead(guest, evening, knew);
        return now.reads;
    }

    public int begun(int plan, int known, int i) {
        if (!isPlan(plan) || !within(known, 0, LAST_DAY) || i < NONE) {
            return NONE;
        }
        spread.seatAll(now.plans[plan]);
        int many = 0;
        for (int beginning = 0; beginning < now.n * EVENINGS; beginning++) {
            spread.follow(beginning / EVENINGS, beginning % EVENINGS);
            if (spread.agrees(known)) {
                if (many == i) {
                    return beginning;
                }
                many++;
            }
        }
        return i == NONE ? many : NONE;
    }

    public int question(int plan, int what) {
        if (!isPlan(plan)) {
            return NONE;
        }
        spread.seatAll(now.plans[plan]);
        spread.ask();
        switch (what) {
            case 0: return spread.asked == NONE ? NONE : spread.asked / EVENINGS;
            case 1: return spread.asked == NONE ? NONE : spread.asked % EVENINGS;
            case 2: return spread.asked == NONE ? NONE : spread.lesser;
            default: return NONE;
        }
    }

    public int image() {
        kept.become(now);
        return now.clock;
    }

    public int back() {
        now.become(kept);
        return now.clock;
    }

    public int about(int what) {
        if (within(what, 0, 5)) {
            return aboutClub(what);
        }
        if (within(what, 10, 10 + PLANS - 1)) {
            return now.plans[what - 10].size;
        }
        if (within(what, 20, 20 + PLANS - 1)) {
            return now.plans[what - 20].law;
        }
        if (within(what, 30, 30 + PLANS - 1)) {
            return Integer.bitCount(now.plans[what - 30].eveningsUsed());
        }
        if (within(what, 40, 40 + now.n - 1)) {
            return now.sides[what - 40];
        }
        return within(what, 60, 60 + now.n - 1) ? now.ages[what - 60] : NONE;
    }

    private int aboutClub(int what) {
        switch (what) {
            case 0: return now.clock;
            case 1: return now.n;
            case 2: return now.rules;
            case 3: return now.reads;
            case 4: return tape.length;
            default: return now.quarrelsAmong(now.everyone());
        }
    }

    private boolean isGuest(int guest) {
        return within(guest, 0, now.n - 1);
    }

    private boolean isGuestOrNone(int guest) {
        return within(guest, NONE, now.n - 1);
    }

    private boolean isPair(int one, int other) {
        return isGuest(one) && isGuest(other) && one != other;
    }

    private boolean isSet(int set) {
        return within(set, 0, now.everyone()) && isSize(Integer.bitCount(set));
    }

    private boolean isTable(int plan, int table) {
        return isPlan(plan) && within(table, 0, now.plans[plan].size - 1);
    }

    private static boolean isPlan(int plan) {
        return within(plan, 0, PLANS - 1);
    }

    private static boolean isEvening(int evening) {
        return within(evening, 0, EVENINGS - 1);
    }

    private static boolean isEveningOrNone(int evening) {
        return within(evening, NONE, EVENINGS - 1);
    }

    private static boolean isSize(int k) {
        return within(k, LEAST_SEATS, MOST_SEATS);
    }

    private static boolean within(int x, int least, int most) {
        return least <= x && x <= most;
    }

    private static boolean has(int set, int guest) {
        return (set >> guest & 1) != 0;
    }

    private static int lowestOf(int set) {
        return set == 0 ? NONE : Integer.bitCount((set & -set) - 1);
    }

    /** The lowest set of so many out of the pool, or NONE. */
    private static int firstOf(int pool, int size) {
        return Integer.bitCount(pool) < size ? NONE : filledUp(0, pool, size);
    }

    /** The next higher set out of the pool of the same size as this one of it, or NONE. */
    private static int nextOf(int set, int pool) {
        // All bits outside the pool are put, so that a carry runs through them to the pool's next.
        int raised = ((set | ~pool) + (set & -set)) & pool;
        return raised <= set ? NONE : filledUp(raised, pool, Integer.bitCount(set));
    }

    private static int filledUp(int set, int pool, int size) {
        int filled = set;
        for (int lacking = size - Integer.bitCount(set); lacking > 0; lacking--) {
            int free = pool & ~filled;
            filled |= free & -free;
        }
        return filled;
    }

    /** The tables of one plan; how often each pair meets is kept in step with them. */
    private static final class Plan {
        private final int[] sets = new int[MOST_TABLES];
        private final int[] evenings = new int[MOST_TABLES];
        private final int[] meets = new int[MOST_GUESTS * MOST_GUESTS];
        private int size;
        private int law = NONE;

        void put(int set, int evening) {
            if (size < MOST_TABLES) {
                sets[size] = set;
                evenings[size] = evening;
                size++;
                countPairs(set, 1);
            }
        }

        void take(int table) {
            if (within(table, 0, size - 1)) {
                countPairs(sets[table], -1);
                size--;
                for (int i = table; i < size; i++) {
                    sets[i] = sets[i + 1];
                    evenings[i] = evenings[i + 1];
                }
            }
        }

        void takeLast(int many) {
            for (int i = 0; i < many; i++) {
                take(size - 1);
            }
        }

        void reseat(int table, int set) {
            countPairs(sets[table], -1);
            sets[table] = set;
            countPairs(set, 1);
        }

        private void countPairs(int set, int by) {
            for (int one = 0; one < MOST_GUESTS; one++) {
                if (has(set, one)) {
                    for (int other = one + 1; other < MOST_GUESTS; other++) {
                        if (has(set, other)) {
                            meets[one * MOST_GUESTS + other] += by;
                            meets[other * MOST_GUESTS + one] += by;
                        }
                    }
                }
            }
        }

        void become(Plan other) {
            System.arraycopy(other.sets, 0, sets, 0, MOST_TABLES);
            System.arraycopy(other.evenings, 0, evenings, 0, MOST_TABLES);
            System.arraycopy(other.meets, 0, meets, 0, MOST_GUESTS * MOST_GUESTS);
            size = other.size;
            law = other.law;
        }

        int missBy(int l, int n) {
            int missed = 0;
            for (int one = 0; one < n; one++) {
                for (int other = one + 1; other < n; other++) {
                    missed += Math.abs(meets[one * MOST_GUESTS + other] - l);
                }
            }
            return missed;
        }

        int guestsIn(int evening) {
            int guests = 0;
            for (int table = 0; table < size; table++) {
                if (evenings[table] == evening) {
                    guests |= sets[table];
                }
            }
            return guests;
        }

        int eveningsUsed() {
            int used = 0;
            for (int table = 0; table < size; table++) {
                if (evenings[table] != NONE) {
                    used |= 1 << evenings[table];
                }
            }
            return used;
        }

        int freeEvening() {
            return lowestOf(~eveningsUsed() & (1 << EVENINGS) - 1);
        }

        private int tableOf(int guest, int evening) {
            for (int table = 0; table < size; table++) {
                if (evenings[table] == evening && has(sets[table], guest)) {
                    return table;
                }
            }
            return NONE;
        }

        boolean swap(int evening, int one, int other) {
            int from = tableOf(one, evening);
            int to = tableOf(other, evening);
            if (from == NONE || to == NONE || from == to) {
                return false;
            }
            int both = 1 << one | 1 << other;
            reseat(from, sets[from] ^ both);
            reseat(to, sets[to] ^ both);
            return true;
        }
    }

    /** All that an image keeps. */
    private static final class State {
        private final int n;
        private final int[] sides = new int[MOST_GUESTS];
        private final int[] ages = new int[MOST_GUESTS];
        private final int[] foes = new int[MOST_GUESTS];
        private final Plan[] plans = new Plan[PLANS];
        private final int[] readGuests = new int[MOST_READ];
        private final int[] readEvenings = new int[MOST_READ];
        private final int[] readDays = new int[MOST_READ];
        private final int[] readKnew = new int[MOST_READ];
        private int reads;
        private int clock;
        private int rules;
        private int tries = NONE;

        State(int guests) {
            n = guests;
            for (int i = 0; i < PLANS; i++) {
                plans[i] = new Plan();
            }
        }

        int everyone() {
            return (1 << n) - 1;
        }

        void setFoes(int one, int other, boolean is) {
            foes[one] = is ? foes[one] | 1 << other : foes[one] & ~(1 << other);
        }

        int quarrelsAmong(int set) {
            int twice = 0;
            for (int guest = 0; guest < n; guest++) {
                if (has(set, guest)) {
                    twice += Integer.bitCount(foes[guest] & set);
                }
            }
            return twice / 2;
        }

        void addRead(int guest, int evening, boolean knew) {
            if (reads < MOST_READ) {
                readGuests[reads] = guest;
                readEvenings[reads] = evening;
                readKnew[reads] = knew ? 1 : 0;
                readDays[reads] = clock;
                reads++;
            }
        }

        void become(State other) {
            System.arraycopy(other.sides, 0, sides, 0, MOST_GUESTS);
            System.arraycopy(other.ages, 0, ages, 0, MOST_GUESTS);
            System.arraycopy(other.foes, 0, foes, 0, MOST_GUESTS);
            for (int i = 0; i < PLANS; i++) {
                plans[i].become(other.plans[i]);
            }
            System.arraycopy(other.readGuests, 0, readGuests, 0, MOST_READ);
            System.arraycopy(other.readEvenings, 0, readEvenings, 0, MOST_READ);
            System.arraycopy(other.readDays, 0, readDays, 0, MOST_READ);
            System.arraycopy(other.readKnew, 0, readKnew, 0, MOST_READ);
            reads = other.reads;
            clock = other.clock;
            // Rules are only ever added, so how many there were is enough to lose those told behind the image.
            rules = other.rules;
            tries = other.tries;
        }
    }

    /** A rule as codes, each of which takes what it joins from what is waiting. */
    private static final class Rule {
        private final int[] codes = new int[MOST_BYTES];
        private int length;

        void add(int code) {
            if (length < MOST_BYTES) {
                codes[length] = code;
                length++;
            }
        }
    }

    /** What tokens are and what rules are made of: a number is itself; the order of comparisons and words counts. */
    private static final class Code {
        private static final int MOST_NUMBER = 9999;
        private static final int END = 10000;
        private static final int NOTHING = 10001;
        private static final int HUGE = 10002;
        private static final int OPEN = 10003;
        private static final int CLOSE = 10004;
        private static final int STOP = 10005;
        private static final int BAR = 10006;
        private static final int COST = 10007;
        private static final int NOT = 10008;
        private static final int NEGATIVE = 10009;
        private static final int OR = 10010;
        private static final int AND = 10011;
        private static final int PLUS = 10012;
        private static final int MINUS = 10013;
        private static final int TIMES = 10014;
        private static final int OVER = 10015;
        private static final int LESS = 10016;
        private static final int AT_MOST = 10017;
        private static final int MORE = 10018;
        private static final int AT_LEAST = 10019;
        private static final int SAME = 10020;
        private static final int UNLIKE = 10021;
        private static final int SIZE = 10022;
        private static final int AGE = 10023;
        private static final int OLDEST = 10024;
        private static final int YOUNGEST = 10025;
        private static final int SIDES_OF = 10026;
        private static final int QUARRELS = 10027;
        private static final int AGAIN = 10028;

        static boolean isNumber(int code) {
            return code <= MOST_NUMBER;
        }

        static boolean compares(int code) {
            return within(code, LESS, UNLIKE);
        }

        static boolean isWord(int code) {
            return within(code, SIZE, AGAIN);
        }
    }

    /** The tape, and the reading of it: it is cut into tokens, and these are followed up to the first fault. */
    private static final class Tape {
        private static final int MOST_CLAUSES = 12;
        private static final int MOST_OPEN = 8;
        private static final int WRONG_TOKEN = 1;
        private static final int TOO_GREAT = 2;
        private static final int TOO_DEEP = 3;
        private static final int SECOND_COST = 4;
        private static final int TOO_MANY = 5;
        private static final int EITHER = 0;
        private static final int BOTH = 1;
        private static final int SUM = 2;
        private static final int PRODUCT = 3;

        private final int[] text = new int[MOST_BYTES];
        private final int[] kinds = new int[MOST_BYTES + 1];
        private final int[] starts = new int[MOST_BYTES + 1];
        private int length;
        private int tokens;
        private int current;
        private boolean costed;
        private int fault = NONE;
        private int place = NONE;

        void add(int word) {
            for (int shift = 24; shift >= 0 && length < MOST_BYTES; shift -= 8) {
                text[length] = word >>> shift & 255;
                length++;
            }
        }

        boolean compile(Rule rule) {
            cutUp();
            current = 0;
            costed = false;
            fault = 0;
            place = NONE;
            rule.length = 0;
            for (int clause = 0; clause <= MOST_CLAUSES && fault == 0 && kinds[current] != Code.END; clause++) {
                readClause(clause, rule);
            }
            return fault == 0;
        }

        private void readClause(int clause, Rule rule) {
            int verb = kinds[current];
            if (verb != Code.BAR && verb != Code.COST) {
                blame(WRONG_TOKEN);
            } else if (verb == Code.COST && costed) {
                blame(SECOND_COST);
            } else if (clause >= MOST_CLAUSES) {
                blame(TOO_MANY);
            } else {
                costed = costed || verb == Code.COST;
                current++;
                readChain(verb == Code.BAR ? EITHER : SUM, 0, rule);
                if (expects(kinds[current] == Code.STOP)) {
                    rule.add(verb);
                }
            }
        }

        private void readChain(int level, int open, Rule rule) {
            readLink(level, open, rule);
            for (int i = 0; i < MOST_BYTES && fault == 0 && joins(level); i++) {
                int joint = kinds[current];
                current++;
                readLink(level, open, rule);
                rule.add(joint);
            }
        }

        private boolean joins(int level) {
            int kind = kinds[current];
            switch (level) {
                case EITHER: return kind == Code.OR;
                case BOTH: return kind == Code.AND;
                case SUM: return kind == Code.PLUS || kind == Code.MINUS;
                default: return kind == Code.TIMES || kind == Code.OVER;
            }
        }

        private void readLink(int level, int open, Rule rule) {
            switch (level) {
                case EITHER:
                    readChain(BOTH, open, rule);
                    break;
                case BOTH:
                    readAsk(open, rule);
                    break;
                case SUM:
                    readChain(PRODUCT, open, rule);
                    break;
                default:
                    readOne(open, rule);
            }
        }

        private void readAsk(int open, Rule rule) {
            if (kinds[current] == Code.NOT) {
                if (opens(open)) {
                    readAsk(open + 1, rule);
                    rule.add(Code.NOT);
                }
                return;
            }
            readChain(SUM, open, rule);
            int compared = kinds[current];
            if (expects(Code.compares(compared))) {
                readChain(SUM, open, rule);
                rule.add(compared);
            }
        }

        private void readOne(int open, Rule rule) {
            int kind = kinds[current];
            if (kind == Code.OPEN) {
                if (opens(open)) {
                    readChain(SUM, open + 1, rule);
                    expects(kinds[current] == Code.CLOSE);
                }
            } else if (kind == Code.MINUS) {
                if (opens(open)) {
                    readOne(open + 1, rule);
                    rule.add(Code.NEGATIVE);
                }
            } else if (kind == Code.HUGE) {
                blame(TOO_GREAT);
            } else if (expects(Code.isNumber(kind) || Code.isWord(kind))) {
                rule.add(kind);
            }
        }

        private boolean opens(int open) {
            if (open >= MOST_OPEN) {
                blame(TOO_DEEP);
                return false;
            }
            current++;
            return true;
        }

        /** Goes on behind a token that is as it must be, and blames any other. */
        private boolean expects(boolean right) {
            if (fault != 0) {
                return false;
            }
            if (!right) {
                blame(WRONG_TOKEN);
                return false;
            }
            // The end is never what is expected, so there is always a token to go on to.
            current++;
            return true;
        }

        private void blame(int which) {
            fault = which;
            place = starts[current];
        }

        private void cutUp() {
            tokens = 0;
            int from = 0;
            for (int i = 0; i < MOST_BYTES && from < length; i++) {
                if (text[from] == ' ' || text[from] == '\n') {
                    from++;
                } else {
                    int to = endOf(from);
                    addToken(kindOf(from, to), from);
                    from = to;
                }
            }
            addToken(Code.END, length);
        }

        private void addToken(int kind, int from) {
            if (tokens <= MOST_BYTES) {
                kinds[tokens] = kind;
                starts[tokens] = from;
                tokens++;
            }
        }

        private int endOf(int from) {
            int to = from + 1;
            if (isLetter(text[from])) {
                while (to < length && isLetter(text[to])) {
                    to++;
                }
            } else if (isDigit(text[from])) {
                while (to < length && isDigit(text[to])) {
                    to++;
                }
            } else if ((text[from] == '<' || text[from] == '>') && to < length && text[to] == '=') {
                to++;
            }
            return to;
        }

        private int kindOf(int from, int to) {
            if (isLetter(text[from])) {
                return wordAt(from, to);
            }
            return isDigit(text[from]) ? numberAt(from, to) : signAt(from, to);
        }

        private int numberAt(int from, int to) {
            int number = 0;
            for (int i = from; i < to; i++) {
                number = number * 10 + text[i] - '0';
                if (!Code.isNumber(number)) {
                    return Code.HUGE;
                }
            }
            return number;
        }

        private int signAt(int from, int to) {
            boolean orEqual = to - from == 2;
            switch (text[from]) {
                case '<': return orEqual ? Code.AT_MOST : Code.LESS;
                case '>': return orEqual ? Code.AT_LEAST : Code.MORE;
                case '=': return Code.SAME;
                case '#': return Code.UNLIKE;
                case '+': return Code.PLUS;
                case '-': return Code.MINUS;
                case '*': return Code.TIMES;
                case '/': return Code.OVER;
                case '(': return Code.OPEN;
                case ')': return Code.CLOSE;
                case ';': return Code.STOP;
                default: return Code.NOTHING;
            }
        }

        private int wordAt(int from, int to) {
            if (spells("bar", from, to)) return Code.BAR;
            if (spells("cost", from, to)) return Code.COST;
            if (spells("or", from, to)) return Code.OR;
            if (spells("and", from, to)) return Code.AND;
            if (spells("not", from, to)) return Code.NOT;
            if (spells("size", from, to)) return Code.SIZE;
            if (spells("age", from, to)) return Code.AGE;
            if (spells("oldest", from, to)) return Code.OLDEST;
            if (spells("youngest", from, to)) return Code.YOUNGEST;
            if (spells("sides", from, to)) return Code.SIDES_OF;
            if (spells("quarrels", from, to)) return Code.QUARRELS;
            return spells("again", from, to) ? Code.AGAIN : Code.NOTHING;
        }

        private boolean spells(String word, int from, int to) {
            if (to - from != word.length()) {
                return false;
            }
            for (int i = from; i < to; i++) {
                if (text[i] != word.charAt(i - from)) {
                    return false;
                }
            }
            return true;
        }

        private static boolean isLetter(int sign) {
            return within(sign, 'a', 'z') || within(sign, 'A', 'Z');
        }

        private static boolean isDigit(int sign) {
            return within(sign, '0', '9');
        }
    }

    /** Weighs a set of guests by the rule of a plan. */
    private static final class Judge {
        // Eight open around one another leave at most five left sides waiting and two for each of them.
        private static final int MOST_WAITING = 40;
        private static final int MOST_VALUE = 1000000;

        private final State state;
        private final Rule[] rules;
        private final int[] waiting = new int[MOST_WAITING];
        private int top;
        private boolean barred;
        private int cost;

        Judge(State club, Rule[] told) {
            state = club;
            rules = told;
        }

        void weigh(Plan plan, int set) {
            barred = false;
            cost = 0;
            top = 0;
            if (!within(plan.law, 0, MOST_RULES - 1)) {
                return;
            }
            Rule rule = rules[plan.law];
            for (int i = 0; i < rule.length; i++) {
                take(rule.codes[i], plan, set);
            }
        }

        private void take(int code, Plan plan, int set) {
            if (Code.isNumber(code)) {
                push(code);
            } else if (Code.isWord(code)) {
                push(wordOf(code, plan, set));
            } else if (code == Code.BAR) {
                barred = pop() != 0 || barred;
            } else if (code == Code.COST) {
                cost = pop();
            } else if (code == Code.NOT) {
                push(1 - pop());
            } else if (code == Code.NEGATIVE) {
                push(-pop());
            } else {
                int right = pop();
                push(joined(code, pop(), right));
            }
        }

        private void push(int value) {
            if (top < MOST_WAITING) {
                waiting[top] = value;
                top++;
            }
        }

        private int pop() {
            if (top <= 0) {
                return 0;
            }
            top--;
            return waiting[top];
        }

        private static int joined(int code, int left, int right) {
            switch (code) {
                case Code.OR: return left | right;
                case Code.AND: return left & right;
                case Code.PLUS: return bounded((long) left + right);
                case Code.MINUS: return bounded((long) left - right);
                case Code.TIMES: return bounded((long) left * right);
                case Code.OVER: return right == 0 ? 0 : left / right;
                default: return holds(code, left, right) ? 1 : 0;
            }
        }

        private static int bounded(long value) {
            return (int) Math.max(-MOST_VALUE, Math.min(MOST_VALUE, value));
        }

        private static boolean holds(int code, int left, int right) {
            switch (code) {
                case Code.LESS: return left < right;
                case Code.AT_MOST: return left <= right;
                case Code.MORE: return left > right;
                case Code.AT_LEAST: return left >= right;
                case Code.SAME: return left == right;
                default: return left != right;
            }
        }

        private int wordOf(int code, Plan plan, int set) {
            switch (code) {
                case Code.SIZE: return Integer.bitCount(set);
                case Code.AGE: return agesOf(set);
                case Code.OLDEST: return oldestOf(set);
                case Code.YOUNGEST: return youngestOf(set);
                case Code.SIDES_OF: return sidesOf(set);
                case Code.QUARRELS: return state.quarrelsAmong(set);
                default: return mostMeets(plan, set);
            }
        }

        private int agesOf(int set) {
            int together = 0;
            for (int guest = 0; guest < state.n; guest++) {
                together += has(set, guest) ? state.ages[guest] : 0;
            }
            return together;
        }

        private int oldestOf(int set) {
            int oldest = 0;
            for (int guest = 0; guest < state.n; guest++) {
                oldest = has(set, guest) ? Math.max(oldest, state.ages[guest]) : oldest;
            }
            return oldest;
        }

        private int youngestOf(int set) {
            int youngest = MOST_AGE;
            for (int guest = 0; guest < state.n; guest++) {
                youngest = has(set, guest) ? Math.min(youngest, state.ages[guest]) : youngest;
            }
            return youngest;
        }

        private int sidesOf(int set) {
            int seen = 0;
            for (int guest = 0; guest < state.n; guest++) {
                seen |= has(set, guest) ? 1 << state.sides[guest] : 0;
            }
            return Integer.bitCount(seen);
        }

        private int mostMeets(Plan plan, int set) {
            int most = 0;
            for (int one = 0; one < state.n; one++) {
                if (has(set, one)) {
                    for (int other = one + 1; other < state.n; other++) {
                        most = has(set, other) ? Math.max(most, plan.meets[one * MOST_GUESTS + other]) : most;
                    }
                }
            }
            return most;
        }
    }

    /** The search that completes a plan, done on the plan itself and undone where it fails. */
    private static final class Completer {
        private final State state;
        private final Judge judge;
        // For each guest those who meet that one often enough already.
        private final int[] enough = new int[MOST_GUESTS];
        private int tried;

        Completer(State club, Judge weigher) {
            state = club;
            judge = weigher;
        }

        int run(Plan plan, int k, int l, int most) {
            tried = 0;
            note(plan, state.everyone(), l);
            int came = 0;
            int taken = NONE;
            // Each step puts a table or takes one away, but for the last.
            for (int step = 0; step <= 2 * most; step++) {
                int pair = lackingPair();
                if (pair == 0) {
                    return came;
                }
                int set = plan.size < MOST_TABLES ? nextSet(plan, k, pair, taken) : NONE;
                if (set != NONE && tried == most) {
                    plan.takeLast(came);
                    return TOO_FEW;
                }
                if (set == NONE && came == 0) {
                    return NONE;
                }
                if (set != NONE) {
                    plan.put(set, NONE);
                    note(plan, set, l);
                    tried++;
                    came++;
                    taken = NONE;
                } else {
                    taken = plan.sets[plan.size - 1];
                    plan.takeLast(1);
                    note(plan, taken, l);
                    came--;
                }
            }
            return NONE;
        }

        private void note(Plan plan, int changed, int l) {
            for (int one = 0; one < state.n; one++) {
                if (has(changed, one)) {
                    enough[one] = 0;
                    for (int other = 0; other < state.n; other++) {
                        enough[one] |= plan.meets[one * MOST_GUESTS + other] >= l ? 1 << other : 0;
                    }
                }
            }
        }

        private int lackingPair() {
            for (int one = 0; one < state.n; one++) {
                int lacking = state.everyone() & ~enough[one] & -(2 << one);
                if (lacking != 0) {
                    return 1 << one | lacking & -lacking;
                }
            }
            return 0;
        }

        /** The first set that may be put for the pair, behind the one taken away if there is one. */
        private int nextSet(Plan plan, int k, int pair, int taken) {
            int one = lowestOf(pair);
            int other = lowestOf(pair & pair - 1);
            int pool = state.everyone() & ~pair & ~enough[one] & ~enough[other];
            int rest = taken == NONE ? firstOf(pool, k - 2) : nextOf(taken ^ pair, pool);
            for (int i = 0; i <= pool && rest != NONE; i++) {
                if (mayMeet(rest)) {
                    judge.weigh(plan, rest | pair);
                    if (!judge.barred) {
                        return rest | pair;
                    }
                }
                rest = nextOf(rest, pool);
            }
            return NONE;
        }

        private boolean mayMeet(int set) {
            for (int guest = 0; guest < state.n; guest++) {
                if (has(set, guest) && (enough[guest] & set) != 0) {
                    return false;
                }
            }
            return true;
        }
    }

    /** The search that parts a plan into evenings, done on the plan itself and undone where it fails. */
    private static final class Parter {
        private final State state;
        // Of each table placed, in their order: its number, its evening, and who was in that evening ahead of it.
        private final int[] placed = new int[MOST_TABLES];
        private final int[] evening = new int[MOST_TABLES];
        private final int[] ahead = new int[MOST_TABLES];
        private int depth;
        private int tried;

        Parter(State club) {
            state = club;
        }

        int run(Plan plan, int most) {
            tried = 0;
            depth = 0;
            int left = unplaced(plan);
            if (left == 0) {
                return 0;
            }
            int current = plan.freeEvening();
            int seated = 0;
            int from = 0;
            // Each step places a table or goes back by one, but for the last.
            for (int step = 0; step <= 2 * most; step++) {
                int table = current == NONE ? NONE : nextTable(plan, seated, from);
                if (table != NONE && tried == most) {
                    undo(plan);
                    return TOO_FEW;
                }
                if (table == NONE && depth == 0) {
                    return NONE;
                }
                if (table == NONE) {
                    depth--;
                    from = placed[depth] + 1;
                    current = evening[depth];
                    seated = ahead[depth];
                    plan.evenings[placed[depth]] = NONE;
                    continue;
                }
                place(plan, table, current, seated);
                seated |= plan.sets[table];
                from = 0;
                if (seated == state.everyone()) {
                    if (depth == left) {
                        return begunEvenings();
                    }
                    current = plan.freeEvening();
                    seated = 0;
                }
            }
            return NONE;
        }

        private static int unplaced(Plan plan) {
            int many = 0;
            for (int table = 0; table < plan.size; table++) {
                many += plan.evenings[table] == NONE ? 1 : 0;
            }
            return many;
        }

        private int nextTable(Plan plan, int seated, int from) {
            int guest = lowestOf(state.everyone() & ~seated);
            for (int table = from; table < plan.size; table++) {
                int set = plan.sets[table];
                if (plan.evenings[table] == NONE && has(set, guest) && (set & seated) == 0) {
                    return table;
                }
            }
            return NONE;
        }

        private void place(Plan plan, int table, int current, int seated) {
            if (depth < MOST_TABLES) {
                placed[depth] = table;
                evening[depth] = current;
                ahead[depth] = seated;
                depth++;
                tried++;
                plan.evenings[table] = current;
            }
        }

        private void undo(Plan plan) {
            for (int i = 0; i < depth; i++) {
                plan.evenings[placed[i]] = NONE;
            }
        }

        private int begunEvenings() {
            int many = 0;
            for (int i = 0; i < depth; i++) {
                many += ahead[i] == 0 ? 1 : 0;
            }
            return many;
        }
    }

    /** Looks for the orders of guests that make one plan's sets another's. */
    private static final class Renamer {
        private final int n;
        private final int[] became = new int[MOST_RENAMED];
        private final int[] timesOne = new int[1 << MOST_RENAMED];
        private final int[] timesOther = new int[1 << MOST_RENAMED];
        private int pinned;
        private int pinnedTo;
        private boolean firstOnly;
        private int found;

        Renamer(int guests) {
            n = guests;
        }

        int howMany(Plan plan) {
            tally(plan, plan);
            return search(plan, NONE, NONE, false);
        }

        int lowestFor(Plan plan, int guest) {
            tally(plan, plan);
            for (int to = 0; to < guest; to++) {
                if (search(plan, guest, to, true) > 0) {
                    return to;
                }
            }
            return guest;
        }

        boolean makes(Plan one, Plan other) {
            tally(one, other);
            return one.size == other.size && search(one, NONE, NONE, true) > 0;
        }

        private void tally(Plan one, Plan other) {
            Arrays.fill(timesOne, 0);
            Arrays.fill(timesOther, 0);
            for (int table = 0; table < one.size; table++) {
                timesOne[one.sets[table]]++;
            }
            for (int table = 0; table < other.size; table++) {
                timesOther[other.sets[table]]++;
            }
        }

        private int search(Plan plan, int guest, int to, boolean first) {
            pinned = guest;
            pinnedTo = to;
            firstOnly = first;
            found = 0;
            rename(plan, 0, 0);
            return found;
        }

        private void rename(Plan plan, int guest, int used) {
            if (guest >= n || guest >= MOST_RENAMED) {
                found++;
                return;
            }
            for (int to = 0; to < n; to++) {
                if (!has(used, to) && (guest != pinned || to == pinnedTo)) {
                    became[guest] = 1 << to;
                    if (fits(plan, guest)) {
                        rename(plan, guest + 1, used | 1 << to);
                    }
                    if (firstOnly && found > 0) {
                        return;
                    }
                }
            }
        }

        /** Whether the sets whose last guest is this one are there as often under their new names. */
        private boolean fits(Plan plan, int guest) {
            for (int table = 0; table < plan.size; table++) {
                int set = plan.sets[table];
                if (set >> guest == 1 && timesOther[underNewNames(set)] != timesOne[set]) {
                    return false;
                }
            }
            return true;
        }

        private int underNewNames(int set) {
            int renamedSet = 0;
            for (int guest = 0; guest < n; guest++) {
                renamedSet |= has(set, guest) ? became[guest] : 0;
            }
            return renamedSet;
        }
    }

    /** Finds the cheapest evening: first for few guests, then for more by what is known of fewer. */
    private static final class Seater {
        private static final int NEVER = 100000000;

        private final State state;
        private final Judge judge;
        private final int[] least;

        Seater(State club, Judge weigher) {
            state = club;
            judge = weigher;
            least = new int[club.everyone() + 1];
        }

        boolean finds(Plan plan, int k) {
            if (k <= 0 || state.n % k != 0) {
                return false;
            }
            for (int guests = 1; guests <= state.everyone(); guests++) {
                int many = Integer.bitCount(guests);
                if (many == k) {
                    judge.weigh(plan, guests);
                    least[guests] = judge.barred ? NEVER : judge.cost;
                } else if (many % k == 0) {
                    least[guests] = costWith(firstSet(guests, k), guests);
                }
            }
            return leastCost() != NEVER;
        }

        int leastCost() {
            return least[state.everyone()];
        }

        /** The lowest set with the first of these guests by which they are sat cheapest, or NONE. */
        private int firstSet(int guests, int k) {
            int first = guests & -guests;
            int pool = guests ^ first;
            int cheapestSet = NONE;
            int rest = firstOf(pool, k - 1);
            for (int i = 0; i <= pool && rest != NONE; i++) {
                int set = rest | first;
                if (costWith(set, guests) < costWith(cheapestSet, guests)) {
                    cheapestSet = set;
                }
                rest = nextOf(rest, pool);
            }
            return cheapestSet;
        }

        private int costWith(int set, int guests) {
            if (set == NONE || least[set] == NEVER) {
                return NEVER;
            }
            int others = guests ^ set;
            if (others == 0) {
                return least[set];
            }
            return least[others] == NEVER ? NEVER : least[set] + least[others];
        }

        int setWith(int guest, int k) {
            int left = state.everyone();
            for (int i = 0; i < state.n; i++) {
                int set = firstSet(left, k);
                if (set == NONE || has(set, guest)) {
                    return set;
                }
                left ^= set;
            }
            return NONE;
        }

        int seat(Plan plan, int k, int evening) {
            int left = state.everyone();
            int came = 0;
            for (int i = 0; i < state.n && left != 0; i++) {
                int set = firstSet(left, k);
                if (set == NONE) {
                    return came;
                }
                plan.put(set, evening);
                left ^= set;
                came++;
            }
            return came;
        }
    }

    /** What goes from table to table: a rumour, a cold, and what tells where a rumour began. */
    private static final class Spread {
        private final State state;
        private final int[] seats = new int[EVENINGS * MOST_GUESTS];
        private final int[] knowing = new int[EVENINGS];
        private final int[] since = new int[MOST_GUESTS];
        private final int[] heard = new int[MOST_GUESTS * EVENINGS];
        private int asked;
        private int lesser;

        Spread(State club) {
            state = club;
        }

        void seatAll(Plan plan) {
            Arrays.fill(seats, 0);
            for (int table = 0; table < plan.size; table++) {
                if (plan.evenings[table] != NONE) {
                    for (int guest = 0; guest < state.n; guest++) {
                        if (has(plan.sets[table], guest)) {
                            seats[plan.evenings[table] * MOST_GUESTS + guest] = plan.sets[table];
                        }
                    }
                }
            }
        }

        private int reached(int set, int evening) {
            int reached = set;
            for (int guest = 0; guest < state.n; guest++) {
                reached |= has(set, guest) ? seats[evening * MOST_GUESTS + guest] : 0;
            }
            return reached;
        }

        void follow(int guest, int s) {
            int know = 1 << guest;
            for (int evening = 0; evening < EVENINGS; evening++) {
                know = evening < s ? know : reached(know, evening);
                knowing[evening] = evening < s ? 0 : know;
            }
        }

        int illIn(int guest, int s, int d, int evening) {
            int had = 1 << guest;
            since[guest] = s;
            for (int i = s; i < evening; i++) {
                int caught = reached(illOf(had, d, i), i) & ~had;
                for (int other = 0; other < state.n; other++) {
                    since[other] = has(caught, other) ? i + 1 : since[other];
                }
                had |= caught;
            }
            return illOf(had, d, evening);
        }

        private int illOf(int had, int d, int evening) {
            int ill = 0;
            for (int guest = 0; guest < state.n; guest++) {
                ill |= has(had, guest) && evening < since[guest] + d ? 1 << guest : 0;
            }
            return ill;
        }

        /** Whether the rumour followed last is as all that was read and told by that day. */
        boolean agrees(int day) {
            for (int i = 0; i < state.reads; i++) {
                int knew = knowing[state.readEvenings[i]] >> state.readGuests[i] & 1;
                if (state.readDays[i] <= day && knew != state.readKnew[i]) {
                    return false;
                }
            }
            return true;
        }

        void ask() {
            int beginnings = hear();
            asked = NONE;
            lesser = 0;
            for (int i = 0; i < state.n * EVENINGS; i++) {
                int parts = Math.min(heard[i], beginnings - heard[i]);
                if (parts > lesser) {
                    lesser = parts;
                    asked = i;
                }
            }
        }

        /** Counts, for each guest and evening, the beginnings by which that guest knew; answers how many there are. */
        private int hear() {
            Arrays.fill(heard, 0);
            int beginnings = 0;
            for (int beginning = 0; beginning < state.n * EVENINGS; beginning++) {
                follow(beginning / EVENINGS, beginning % EVENINGS);
                if (agrees(state.clock)) {
                    beginnings++;
                    for (int i = 0; i < state.n * EVENINGS; i++) {
                        heard[i] += has(knowing[i % EVENINGS], i / EVENINGS) ? 1 : 0;
                    }
                }
            }
            return beginnings;
        }
    }
}
