/** Runs of calls chosen by a fixed row of numbers, each answered by DinnerRounds and by the model. */
public final class ModelTest {
    private static final Check check = new Check("ModelTest");
    private static final String[] BITS = {"bar", "cost", "or", "and", "not", "size", "age", "oldest", "youngest",
        "sides", "quarrels", "again", "<", "<=", ">", ">=", "=", "#", "+", "-", "*", "/", "(", ")", ";", "0", "1",
        "9999", "10000", "x", "Bar", "$", "\n", " ", "7", "\t", "!", "sizesize"};

    // An object is used for so many calls; the dearest step looks at sixty tables.
    private static final int MOST_CALLS = 512;
    private static final int DEAREST_STEP = 125;

    private long seed;

    private ModelTest(long seed) {
        this.seed = seed * 2862933555777941757L + 3037000493L;
    }

    public static void main(String[] args) {
        long from = args.length > 0 ? Long.parseLong(args[0]) : 1;
        int many = args.length > 1 ? Integer.parseInt(args[1]) : 400;
        for (long i = from; i < from + many && check.wrong() < 20; i++) {
            new ModelTest(i).run(i);
        }
        check.close();
    }

    private int below(int bound) {
        seed = seed * 6364136223846793005L + 1442695040888963407L;
        return (int) ((seed >>> 33) % bound);
    }

    private int among(int least, int most) {
        return least + below(most - least + 1);
    }

    /** Mostly within the bounds, at times just outside or far away. */
    private int near(int least, int most) {
        switch (below(40)) {
            case 0: return least - 1;
            case 1: return most + 1;
            case 2: return below(2) == 0 ? Integer.MIN_VALUE + below(5) : Integer.MAX_VALUE - below(5);
            case 3: return least;
            case 4: return most;
            default: return among(least, most);
        }
    }

    private void run(long number) {
        int n = near(4, 12);
        DinnerRounds x = new DinnerRounds(n);
        Model y = new Model(n);
        int guests = x.about(1);
        int flavour = below(4);
        int calls = 1;
        while (calls < MOST_CALLS - DEAREST_STEP && check.wrong() < 20) {
            calls += step(number, x, y, guests, flavour);
        }
    }

    private int set(int n) {
        if (below(30) == 0) return near(0, 1 << n);
        int set = 0;
        int size = among(2, 6);
        for (int i = 0; i < size; i++) {
            set |= 1 << below(n);
        }
        return set;
    }

    private int step(long number, DinnerRounds x, Model y, int n, int flavour) {
        int plan = near(0, 2);
        int evening = below(12) == 0 ? -1 : near(0, below(2) == 0 ? 11 : 3);
        int guest = near(0, n - 1);
        int other = near(0, n - 1);
        String where = "run " + number + " ";
        switch (below(40)) {
            case 0: {
                int side = near(0, 3);
                int age = near(0, 99);
                check.due(where + "guest", x.guest(guest, side, age), y.guest(guest, side, age));
                return 1;
            }
            case 1: {
                boolean is = below(3) > 0;
                check.due(where + "quarrel", x.quarrel(guest, other, is), y.quarrel(guest, other, is));
                return 1;
            }
            case 2: case 3: case 4: case 5: {
                int set = set(n);
                check.due(where + "table " + plan + " " + evening + " " + set, x.table(plan, evening, set),
                    y.table(plan, evening, set));
                return 1;
            }
            case 6: {
                int table = near(0, 12);
                check.due(where + "clear", x.clear(plan, table), y.clear(plan, table));
                return 1;
            }
            case 7: {
                int to = near(0, 2);
                check.due(where + "copy", x.copy(plan, to), y.copy(plan, to));
                return 1;
            }
            case 8: return lookAt(where, x, y, plan);
            case 9:
                check.due(where + "meet", x.meet(plan, guest, other), y.meet(plan, guest, other));
                return 1;
            case 10: {
                int l = near(0, 60);
                check.due(where + "miss", x.miss(plan, l), y.miss(plan, l));
                return 1;
            }
            case 11: {
                int v = near(3, below(2) == 0 ? 25 : 200);
                int k = near(2, below(2) == 0 ? 6 : Math.max(3, Math.min(v, 200)));
                int l = near(1, below(2) == 0 ? 5 : 50);
                int what = near(0, 2);
                check.due(where + "counts", x.counts(v, k, l, what), y.counts(v, k, l, what));
                return 1;
            }
            case 12: case 13: return tell(where, x, y);
            case 14: {
                int rule = near(-1, 3);
                check.due(where + "by", x.by(plan, rule), y.by(plan, rule));
                return 1;
            }
            case 15: case 16: {
                int set = set(n);
                int what = near(0, 1);
                check.due(where + "judged", x.judged(plan, set, what), y.judged(plan, set, what));
                return 1;
            }
            case 17: case 18: return complete(where, x, y, plan, flavour);
            case 19: case 20: {
                int tries = near(1, below(3) == 0 ? 12 : below(3) == 0 ? 20000 : 300);
                check.due(where + "part " + tries, x.part(plan, tries), y.part(plan, tries));
                check.due(where + "tries", x.tries(), y.tries());
                return 2;
            }
            case 21: {
                if (n > 6 && n < 9 && below(n == 8 ? 10 : 3) > 0) return 0;
                int who = below(3) == 0 ? -1 : guest;
                check.due(where + "renamed", x.renamed(plan, who), y.renamed(plan, who));
                return 1;
            }
            case 22: {
                if (n > 6 && n < 9 && below(n == 8 ? 10 : 3) > 0) return 0;
                int to = near(0, 2);
                check.due(where + "like", x.like(plan, to), y.like(plan, to));
                return 1;
            }
            case 23: case 24: {
                if (n == 12 && below(5) > 0) return 0;
                int k = near(2, 6);
                int who = below(3) == 0 ? -1 : guest;
                check.due(where + "cheapest", x.cheapest(plan, k, who), y.cheapest(plan, k, who));
                return 1;
            }
            case 25: {
                if (n == 12 && below(5) > 0) return 0;
                int k = near(2, 6);
                check.due(where + "sit", x.sit(plan, k, evening), y.sit(plan, k, evening));
                return 1;
            }
            case 26: case 27:
                check.due(where + "change", x.change(plan, evening, guest, other),
                    y.change(plan, evening, guest, other));
                return 1;
            case 28: {
                int l = below(10) == 0 ? near(0, 60) : near(0, 3);
                for (int what = -1; what < 4; what++) {
                    check.due(where + "best", x.best(plan, evening, l, what), y.best(plan, evening, l, what));
                }
                return 5;
            }
            case 29: {
                int s = near(0, 5);
                check.due(where + "knows", x.knows(plan, guest, s, evening), y.knows(plan, guest, s, evening));
                check.due(where + "all", x.all(plan, guest, s), y.all(plan, guest, s));
                return 2;
            }
            case 30: {
                int s = near(0, 5);
                int d = near(1, 9);
                int until = near(0, 11);
                check.due(where + "ill", x.ill(plan, guest, s, d, until), y.ill(plan, guest, s, d, until));
                return 1;
            }
            case 31: {
                int days = below(4) == 0 ? near(1, 99) : near(1, 3);
                check.due(where + "days", x.days(days), y.days(days));
                return 1;
            }
            case 32: {
                if (below(8) > 0) return 0;
                boolean knew = below(2) == 0;
                check.due(where + "read", x.read(guest, evening, knew), y.read(guest, evening, knew));
                return 1;
            }
            case 33: {
                int known = below(2) == 0 ? x.about(0) - below(4) : near(0, 999);
                int i = below(2) == 0 ? -1 : near(0, 20);
                check.due(where + "begun", x.begun(plan, known, i), y.begun(plan, known, i));
                return 2;
            }
            case 34: {
                int what = near(0, 2);
                check.due(where + "question", x.question(plan, what), y.question(plan, what));
                return 1;
            }
            case 35:
                if (below(4) == 0) {
                    check.due(where + "image", x.image(), y.image());
                    return 1;
                }
                if (below(6) == 0) {
                    check.due(where + "back", x.back(), y.back());
                    check.due(where + "tries behind back", x.tries(), y.tries());
                    return 2;
                }
                return 0;
            case 36: case 37: return seatAll(where, x, y, plan, evening, n);
            case 38: return readOne(where, x, y, plan, n);
            default: {
                int what = near(0, 75);
                check.due(where + "about " + what, x.about(what), y.about(what));
                return 1;
            }
        }
    }

    /** The guests, in some order, at tables of two to four, so that an evening is nearly full. */
    private int seatAll(String where, DinnerRounds x, Model y, int plan, int evening, int n) {
        int calls = 0;
        int left = (1 << n) - 1;
        while (Integer.bitCount(left) > 1 && calls < 6) {
            int size = Math.min(among(2, 4), Integer.bitCount(left));
            int set = 0;
            while (Integer.bitCount(set) < size) {
                set |= 1 << below(n) & left;
            }
            left &= ~set;
            check.due(where + "table", x.table(plan, evening, set), y.table(plan, evening, set));
            calls++;
        }
        return calls;
    }

    /** What is read fits one beginning, so that others are left over too. */
    private int readOne(String where, DinnerRounds x, Model y, int plan, int n) {
        if (x.about(3) > 0) return 0;
        int first = below(n);
        int s = below(4);
        for (int i = 0; i < 2; i++) {
            int guest = below(n);
            int evening = below(12);
            boolean knew = evening >= s && (y.knows(Math.floorMod(plan, 3), first, s, evening) >> guest & 1) == 1;
            check.due(where + "read", x.read(guest, evening, knew), y.read(guest, evening, knew));
        }
        return 2;
    }

    private int lookAt(String where, DinnerRounds x, Model y, int plan) {
        int table = near(0, 20);
        int what = near(0, 1);
        check.due(where + "at", x.at(plan, table, what), y.at(plan, table, what));
        if (below(3) > 0) return 1;
        int tables = y.about(10 + plan);
        for (int i = 0; i < tables; i++) {
            check.due(where + "set", x.at(plan, i, 0), y.at(plan, i, 0));
            check.due(where + "evening", x.at(plan, i, 1), y.at(plan, i, 1));
        }
        return 1 + 2 * Math.max(0, tables);
    }

    private int complete(String where, DinnerRounds x, Model y, int plan, int flavour) {
        int k = near(2, flavour == 0 ? 6 : 4);
        int l = near(1, below(3) == 0 ? 9 : 2);
        int tries = near(1, below(2) == 0 ? 40 : below(10) == 0 ? 5000 : 200);
        if (tries > 5000 && tries <= 20000) tries = 5000;
        check.due(where + "complete " + k + " " + l + " " + tries, x.complete(plan, k, l, tries),
            y.complete(plan, k, l, tries));
        check.due(where + "tries", x.tries(), y.tries());
        int calls = 2;
        int tables = y.about(10 + plan);
        if (plan >= 0 && plan <= 2 && tables > 25) {
            for (int i = tables - 1; i >= 6; i -= 1 + below(2)) {
                check.due(where + "clear", x.clear(plan, i), y.clear(plan, i));
                calls++;
            }
        }
        return calls;
    }

    private int tell(String where, DinnerRounds x, Model y) {
        String text = text();
        int[] words = Check.packed(text);
        for (int i = 0; i < words.length; i += 5) {
            check.due(where + "feed", x.feed(words[i], words[i + 1], words[i + 2], words[i + 3], words[i + 4]),
                y.feed(words[i], words[i + 1], words[i + 2], words[i + 3], words[i + 4]));
        }
        int end = below(20) == 0 ? near(0, 300) : text.length();
        check.due(where + "end", x.end(end), y.end(end));
        int got = x.rule();
        check.due(where + "rule " + text, got, y.rule());
        check.due(where + "fault " + text, x.fault(0), y.fault(0));
        check.due(where + "place " + text, x.fault(1), y.fault(1));
        check.due(where + "tape", x.about(4), y.about(4));
        return 5 + words.length / 5;
    }

    private String text() {
        StringBuilder t = new StringBuilder();
        int clauses = below(12) == 0 ? among(11, 14) : among(0, 4);
        boolean costed = false;
        for (int i = 0; i < clauses; i++) {
            if (below(3) == 0 && (!costed || below(8) == 0)) {
                costed = true;
                t.append("cost ").append(sum(clauses > 9 ? 0 : 4)).append(';');
            } else {
                t.append("bar ").append(either(clauses > 9 ? 0 : 3)).append(';');
            }
            t.append(below(4) == 0 ? "\n " : "");
        }
        if (below(3) == 0) spoil(t);
        if (t.length() > 300) t.setLength(300);
        return t.toString();
    }

    private void spoil(StringBuilder t) {
        int times = among(1, 2);
        for (int i = 0; i < times; i++) {
            int at = below(t.length() + 1);
            if (below(3) == 0 && at < t.length()) {
                t.deleteCharAt(at);
            } else if (below(3) == 0 && at < t.length()) {
                t.setCharAt(at, (char) below(256));
            } else {
                t.insert(at, BITS[below(BITS.length)]);
            }
        }
    }

    private String either(int depth) {
        StringBuilder t = new StringBuilder(ask(depth));
        for (int i = below(5); i > 2; i--) {
            t.append(below(2) == 0 ? " or " : " and ").append(ask(depth));
        }
        return t.toString();
    }

    private String ask(int depth) {
        if (below(5) == 0) {
            return "not ".repeat(below(10) == 0 ? among(6, 10) : 1) + ask(depth);
        }
        return sum(depth - 1) + BITS[among(12, 17)] + sum(depth - 1);
    }

    private String sum(int depth) {
        StringBuilder t = new StringBuilder(one(depth));
        for (int i = below(5); i > 2; i--) {
            t.append(BITS[among(18, 21)]).append(one(depth - 1));
        }
        return t.toString();
    }

    private String one(int depth) {
        switch (below(depth > 0 ? 9 : 6)) {
            case 0: case 1: case 2: return BITS[among(5, 11)];
            case 3: return "" + below(10);
            case 4: return "" + below(below(3) == 0 ? 12000 : 130);
            case 5: return below(12) == 0 ? "-".repeat(among(1, 10)) + "2" : "size";
            case 6: return "-" + one(depth - 1);
            case 7: return "(" + sum(depth - 1) + ")";
            default: {
                int deep = below(8) == 0 ? among(5, 9) : 1;
                return "(".repeat(deep) + sum(depth - 1) + ")".repeat(deep);
            }
        }
    }
}
