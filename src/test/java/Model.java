import java.util.ArrayList;
import java.util.Arrays;
import java.util.List;

/** The document's words once more in their most wasteful form, to be set beside DinnerRounds. */
final class Model {
    private static final int NONE = -1;
    private static final int OTHERS = -10000000;

    private record Table(int set, int evening) { }

    private record Read(int guest, int evening, boolean knew, int day) { }

    private static final class TooFew extends RuntimeException {
        private static final long serialVersionUID = 1;
    }

    private static final class State {
        int[] sides;
        int[] ages;
        boolean[][] foes;
        List<List<Table>> plans = new ArrayList<>();
        int[] laws = {NONE, NONE, NONE};
        List<Read> reads = new ArrayList<>();
        List<List<String>> rules = new ArrayList<>();
        int clock = 0;
        int tries = NONE;

        State twin() {
            State t = new State();
            t.sides = sides.clone();
            t.ages = ages.clone();
            t.foes = new boolean[foes.length][];
            for (int i = 0; i < foes.length; i++) {
                t.foes[i] = foes[i].clone();
            }
            for (List<Table> plan : plans) {
                t.plans.add(new ArrayList<>(plan));
            }
            t.laws = laws.clone();
            t.reads.addAll(reads);
            t.rules.addAll(rules);
            t.clock = clock;
            t.tries = tries;
            return t;
        }
    }

    private final int n;
    private State s = new State();
    private State kept;
    private String tape = "";
    private int fault = NONE;
    private int place = NONE;

    Model(int asked) {
        n = asked < 4 ? 4 : asked > 12 ? 12 : asked;
        s.sides = new int[n];
        s.ages = new int[n];
        s.foes = new boolean[n][n];
        for (int i = 0; i < 3; i++) {
            s.plans.add(new ArrayList<>());
        }
        kept = s.twin();
    }

    private boolean g(int guest) {
        return guest >= 0 && guest < n;
    }

    private static boolean p(int plan) {
        return plan >= 0 && plan <= 2;
    }

    private static boolean e(int evening) {
        return evening >= 0 && evening <= 11;
    }

    private boolean okSet(int set) {
        return set > 0 && set < 1 << n && Integer.bitCount(set) >= 2 && Integer.bitCount(set) <= 6;
    }

    private List<Integer> members(int set) {
        List<Integer> m = new ArrayList<>();
        for (int i = 0; i < n; i++) {
            if ((set & 1 << i) != 0) {
                m.add(i);
            }
        }
        return m;
    }

    boolean guest(int guest, int side, int age) {
        if (!g(guest) || side < 0 || side > 3 || age < 0 || age > 99) return false;
        s.sides[guest] = side;
        s.ages[guest] = age;
        return true;
    }

    boolean quarrel(int one, int other, boolean is) {
        if (!g(one) || !g(other) || one == other) return false;
        s.foes[Math.min(one, other)][Math.max(one, other)] = is;
        return true;
    }

    int table(int plan, int evening, int set) {
        if (!p(plan) || evening != NONE && !e(evening) || !okSet(set)) return NONE;
        List<Table> t = s.plans.get(plan);
        if (t.size() == 60) return NONE;
        for (Table x : t) {
            if (evening != NONE && x.evening() == evening && (x.set() & set) != 0) return NONE;
        }
        t.add(new Table(set, evening));
        return t.size() - 1;
    }

    boolean clear(int plan, int table) {
        if (!p(plan) || table < 0 || table >= s.plans.get(plan).size()) return false;
        s.plans.get(plan).remove(table);
        return true;
    }

    int copy(int from, int to) {
        if (!p(from) || !p(to)) return NONE;
        s.plans.set(to, new ArrayList<>(s.plans.get(from)));
        s.laws[to] = s.laws[from];
        return s.plans.get(to).size();
    }

    int at(int plan, int table, int what) {
        if (!p(plan) || table < 0 || table >= s.plans.get(plan).size()) return NONE;
        Table t = s.plans.get(plan).get(table);
        return what == 0 ? t.set() : what == 1 ? t.evening() : NONE;
    }

    private static int meetOf(List<Table> plan, int one, int other) {
        int m = 0;
        for (Table t : plan) {
            if ((t.set() >> one & 1) == 1 && (t.set() >> other & 1) == 1) m++;
        }
        return m;
    }

    int meet(int plan, int one, int other) {
        if (!p(plan) || !g(one) || !g(other) || one == other) return NONE;
        return meetOf(s.plans.get(plan), one, other);
    }

    private int missOf(List<Table> plan, int l) {
        int m = 0;
        for (int i = 0; i < n; i++) {
            for (int j = 0; j < i; j++) {
                m += Math.abs(meetOf(plan, i, j) - l);
            }
        }
        return m;
    }

    int miss(int plan, int l) {
        return !p(plan) || l < 0 || l > 60 ? NONE : missOf(s.plans.get(plan), l);
    }

    int counts(int v, int k, int l, int what) {
        if (v < 3 || v > 200 || k < 2 || k >= v || l < 1 || l > 50 || what < 0 || what > 2) return NONE;
        double r = (double) l * (v - 1) / (k - 1);
        double b = v * Math.floor(r) / k;
        if (what == 1) return (int) Math.floor(r);
        if (what == 2) return (int) Math.floor(b);
        return r != Math.floor(r) ? 1 : b != Math.floor(b) ? 2 : b < v ? 3 : v % k != 0 ? 4 : 0;
    }

    int feed(int a, int b, int c, int d, int e) {
        if (tape.length() > 280) return NONE;
        StringBuilder t = new StringBuilder(tape);
        for (int w : new int[] {a, b, c, d, e}) {
            for (byte x : java.nio.ByteBuffer.allocate(4).putInt(w).array()) {
                t.append((char) (x & 255));
            }
        }
        tape = t.toString();
        return tape.length();
    }

    int end(int m) {
        if (m < 0 || m > tape.length()) return NONE;
        tape = tape.substring(0, m);
        return m;
    }

    int rule() {
        if (s.rules.size() == 4) return NONE;
        List<String> tokens = new ArrayList<>();
        List<Integer> starts = new ArrayList<>();
        java.util.regex.Matcher m =
            java.util.regex.Pattern.compile("(?s)[a-zA-Z]+|[0-9]+|<=|>=|[^ \n]").matcher(tape);
        while (m.find()) {
            tokens.add(m.group());
            starts.add(m.start());
        }
        tokens.add("");
        starts.add(tape.length());
        tape = "";
        int[] first = new Grammar().firstFault(tokens);
        fault = first[0];
        place = fault == 0 ? NONE : starts.get(first[1]);
        if (fault != 0) return NONE;
        s.rules.add(tokens);
        return s.rules.size() - 1;
    }

    /** Goes over the tokens once, with what is open as a text of ( n and -. */
    private static final class Grammar {
        private String open = "";
        private boolean bar, compared, askStart, cost, wantsOne;
        private int clauses = 0;

        int[] firstFault(List<String> tokens) {
            boolean between = true;
            for (int i = 0; i < tokens.size(); i++) {
                String t = tokens.get(i);
                if (between) {
                    if (t.isEmpty()) return new int[] {0, 0};
                    if (!t.equals("bar") && !t.equals("cost")) return new int[] {1, i};
                    bar = t.equals("bar");
                    if (!bar && cost) return new int[] {4, i};
                    if (++clauses > 12) return new int[] {5, i};
                    cost |= !bar;
                    between = false;
                    wantsOne = true;
                    askStart = bar;
                    compared = false;
                    open = "";
                } else {
                    int f = wantsOne ? one(t) : behind(t);
                    if (f > 0) return new int[] {f, i};
                    between = f < 0;
                }
            }
            throw new IllegalStateException("the end was passed");
        }

        private int one(String t) {
            String opens = t.equals("(") ? "(" : t.equals("-") ? "-" : t.equals("not") && askStart ? "n" : "";
            if (!opens.isEmpty()) {
                if (open.length() == 8) return 3;
                open += opens;
                askStart = opens.equals("n");
                return 0;
            }
            boolean number = t.matches("[0-9]+");
            if (!number && !List.of("size", "age", "oldest", "youngest", "sides", "quarrels", "again").contains(t)) {
                return 1;
            }
            if (number && new java.math.BigInteger(t).compareTo(java.math.BigInteger.valueOf(9999)) > 0) return 2;
            wantsOne = false;
            askStart = false;
            closeMinus();
            return 0;
        }

        private void closeMinus() {
            open = open.replaceAll("-+$", "");
        }

        /** Behind a ONE: 0 it goes on, -1 the clause is over. */
        private int behind(String t) {
            boolean in = open.contains("(");
            if (List.of("+", "-", "*", "/").contains(t)) {
                wantsOne = true;
                return 0;
            }
            if (t.equals(")") && in) {
                open = open.substring(0, open.length() - 1);
                closeMinus();
                return 0;
            }
            if (List.of("<", "<=", ">", ">=", "=", "#").contains(t) && bar && !in && !compared) {
                compared = true;
                wantsOne = true;
                return 0;
            }
            if ((t.equals("and") || t.equals("or")) && compared && !in) {
                compared = false;
                wantsOne = true;
                askStart = true;
                open = "";
                return 0;
            }
            return t.equals(";") && !in && compared == bar ? -1 : 1;
        }
    }

    int fault(int what) {
        return what == 0 ? fault : what == 1 ? place : NONE;
    }

    boolean by(int plan, int rule) {
        if (!p(plan) || rule < NONE || rule >= s.rules.size()) return false;
        s.laws[plan] = rule;
        return true;
    }

    /** Works a sound rule out by splitting it where it binds least. */
    private final class Worth {
        private final List<Table> plan;
        private final int set;
        boolean barred = false;
        long cost = 0;

        Worth(int law, List<Table> plan, int set) {
            this.plan = plan;
            this.set = set;
            if (law == NONE) return;
            List<String> t = s.rules.get(law);
            int from = 0;
            for (int i = 0; i < t.size(); i++) {
                if (t.get(i).equals(";")) {
                    List<String> body = t.subList(from + 1, i);
                    if (t.get(from).equals("bar")) {
                        barred |= truth(body);
                    } else {
                        cost = sum(body);
                    }
                    from = i + 1;
                }
            }
        }

        private boolean truth(List<String> t) {
            int or = t.lastIndexOf("or");
            if (or >= 0) return truth(t.subList(0, or)) | truth(t.subList(or + 1, t.size()));
            int and = t.lastIndexOf("and");
            if (and >= 0) return truth(t.subList(0, and)) & truth(t.subList(and + 1, t.size()));
            if (t.get(0).equals("not")) return !truth(t.subList(1, t.size()));
            for (String c : List.of("<", "<=", ">", ">=", "=", "#")) {
                int at = t.indexOf(c);
                if (at >= 0) {
                    int order = Long.compare(sum(t.subList(0, at)), sum(t.subList(at + 1, t.size())));
                    return switch (c) {
                        case "<" -> order < 0;
                        case "<=" -> order <= 0;
                        case ">" -> order > 0;
                        case ">=" -> order >= 0;
                        case "=" -> order == 0;
                        default -> order != 0;
                    };
                }
            }
            throw new IllegalStateException("no comparison in " + t);
        }

        /** The last place outside of brackets, behind a ONE, of one of these signs. */
        private int lastSign(List<String> t, String one, String other) {
            int depth = 0;
            for (int i = t.size() - 1; i > 0; i--) {
                String x = t.get(i);
                depth += x.equals(")") ? 1 : x.equals("(") ? -1 : 0;
                boolean behindOne = t.get(i - 1).equals(")") || t.get(i - 1).matches("[a-z0-9]+");
                if (depth == 0 && behindOne && (x.equals(one) || x.equals(other))) return i;
            }
            return NONE;
        }

        private long sum(List<String> t) {
            int at = lastSign(t, "+", "-");
            if (at == NONE) at = lastSign(t, "*", "/");
            if (at != NONE) {
                long a = sum(t.subList(0, at));
                long b = sum(t.subList(at + 1, t.size()));
                long v = switch (t.get(at)) {
                    case "+" -> a + b;
                    case "-" -> a - b;
                    case "*" -> a * b;
                    default -> b == 0 ? 0 : a / b;
                };
                return v > 1000000 ? 1000000 : v < -1000000 ? -1000000 : v;
            }
            if (t.get(0).equals("-")) return -sum(t.subList(1, t.size()));
            if (t.get(0).equals("(")) return sum(t.subList(1, t.size() - 1));
            return Character.isDigit(t.get(0).charAt(0)) ? Long.parseLong(t.get(0)) : word(t.get(0));
        }

        private long word(String w) {
            List<Integer> m = members(set);
            switch (w) {
                case "size": return m.size();
                case "age": return m.stream().mapToInt(i -> s.ages[i]).sum();
                case "oldest": return m.stream().mapToInt(i -> s.ages[i]).max().getAsInt();
                case "youngest": return m.stream().mapToInt(i -> s.ages[i]).min().getAsInt();
                case "sides": return m.stream().map(i -> s.sides[i]).distinct().count();
                default:
            }
            int foes = 0;
            int most = 0;
            for (int i : m) {
                for (int j : m) {
                    if (i < j) {
                        foes += s.foes[i][j] ? 1 : 0;
                        most = Math.max(most, meetOf(plan, i, j));
                    }
                }
            }
            return w.equals("quarrels") ? foes : most;
        }
    }

    int judged(int plan, int set, int what) {
        if (!p(plan) || !okSet(set) || what < 0 || what > 1) return OTHERS;
        Worth w = new Worth(s.laws[plan], s.plans.get(plan), set);
        return what == 1 ? (int) w.cost : w.barred ? 1 : 0;
    }

    int complete(int plan, int k, int l, int tries) {
        if (!p(plan) || k < 2 || k > 6 || l < 1 || l > 9 || tries < 1 || tries > 20000) return NONE;
        List<Table> before = s.plans.get(plan);
        List<Table> t = new ArrayList<>(before);
        s.tries = 0;
        try {
            if (!completed(t, s.laws[plan], k, l, tries)) return NONE;
        } catch (TooFew f) {
            return -2;
        }
        s.plans.set(plan, t);
        return t.size() - before.size();
    }

    private boolean completed(List<Table> t, int law, int k, int l, int most) {
        int[][] meets = new int[n][n];
        int pair = 0;
        for (int i = 0; i < n; i++) {
            for (int j = i + 1; j < n; j++) {
                meets[i][j] = meetOf(t, i, j);
                if (pair == 0 && meets[i][j] < l) pair = 1 << i | 1 << j;
            }
        }
        if (pair == 0) return true;
        if (t.size() == 60) return false;
        for (int set = 0; set < 1 << n; set++) {
            if (Integer.bitCount(set) == k && (set & pair) == pair && apart(meets, set, l)
                    && !new Worth(law, t, set).barred) {
                if (s.tries == most) throw new TooFew();
                s.tries++;
                t.add(new Table(set, NONE));
                if (completed(t, law, k, l, most)) return true;
                t.remove(t.size() - 1);
            }
        }
        return false;
    }

    private boolean apart(int[][] meets, int set, int l) {
        for (int i : members(set)) {
            for (int j : members(set)) {
                if (i < j && meets[i][j] >= l) return false;
            }
        }
        return true;
    }

    int part(int plan, int tries) {
        if (!p(plan) || tries < 1 || tries > 20000) return NONE;
        s.tries = 0;
        List<Table> t = new ArrayList<>(s.plans.get(plan));
        if (t.stream().noneMatch(x -> x.evening() == NONE)) return 0;
        long before = t.stream().map(Table::evening).filter(x -> x != NONE).distinct().count();
        try {
            if (!begin(t, tries)) return NONE;
        } catch (TooFew f) {
            return -2;
        }
        s.plans.set(plan, t);
        return (int) (t.stream().map(Table::evening).distinct().count() - before);
    }

    private boolean begin(List<Table> t, int most) {
        for (int evening = 0; evening < 12; evening++) {
            int this1 = evening;
            if (t.stream().noneMatch(x -> x.evening() == this1)) return fill(t, evening, 0, most);
        }
        return false;
    }

    private boolean fill(List<Table> t, int evening, int in, int most) {
        if (in == (1 << n) - 1) {
            return t.stream().noneMatch(x -> x.evening() == NONE) || begin(t, most);
        }
        int lowest = 0;
        while ((in >> lowest & 1) == 1) {
            lowest++;
        }
        for (int i = 0; i < t.size(); i++) {
            Table x = t.get(i);
            if (x.evening() == NONE && (x.set() >> lowest & 1) == 1 && (x.set() & in) == 0) {
                if (s.tries == most) throw new TooFew();
                s.tries++;
                t.set(i, new Table(x.set(), evening));
                if (fill(t, evening, in | x.set(), most)) return true;
                t.set(i, x);
            }
        }
        return false;
    }

    int tries() {
        return s.tries;
    }

    private List<int[]> orders(List<Table> one, List<Table> other) {
        List<int[]> found = new ArrayList<>();
        int[] want = other.stream().mapToInt(Table::set).sorted().toArray();
        permute(new int[n], 0, 0, one, want, found);
        return found;
    }

    private void permute(int[] to, int i, int used, List<Table> one, int[] want, List<int[]> found) {
        if (i == n) {
            int[] got = one.stream().mapToInt(t -> {
                int set = 0;
                for (int m : members(t.set())) {
                    set |= 1 << to[m];
                }
                return set;
            }).sorted().toArray();
            if (Arrays.equals(got, want)) found.add(to.clone());
            return;
        }
        for (int x = 0; x < n; x++) {
            if ((used >> x & 1) == 0) {
                to[i] = x;
                permute(to, i + 1, used | 1 << x, one, want, found);
            }
        }
    }

    int renamed(int plan, int guest) {
        if (!p(plan) || guest != NONE && !g(guest) || n > 8) return NONE;
        List<int[]> o = orders(s.plans.get(plan), s.plans.get(plan));
        return guest == NONE ? o.size() : o.stream().mapToInt(x -> x[guest]).min().getAsInt();
    }

    int like(int one, int other) {
        if (!p(one) || !p(other) || n > 8) return NONE;
        return orders(s.plans.get(one), s.plans.get(other)).isEmpty() ? 0 : 1;
    }

    private List<Integer> cheapestSets;
    private long cheapestCost;

    private void evenings(int plan, int k, List<Integer> sets, int in, long cost) {
        if (in == (1 << n) - 1) {
            if (cheapestSets == null || cost < cheapestCost) {
                cheapestSets = new ArrayList<>(sets);
                cheapestCost = cost;
            }
            return;
        }
        int lowest = Integer.lowestOneBit(~in);
        for (int set = 0; set < 1 << n; set++) {
            if ((set & lowest) != 0 && (set & in) == 0 && Integer.bitCount(set) == k) {
                Worth w = new Worth(s.laws[plan], s.plans.get(plan), set);
                if (!w.barred) {
                    sets.add(set);
                    evenings(plan, k, sets, in | set, cost + w.cost);
                    sets.remove(sets.size() - 1);
                }
            }
        }
    }

    int cheapest(int plan, int k, int guest) {
        if (!p(plan) || k < 2 || k > 6 || guest != NONE && !g(guest) || n % k != 0) return OTHERS;
        cheapestSets = null;
        evenings(plan, k, new ArrayList<>(), 0, 0);
        if (cheapestSets == null) return OTHERS;
        if (guest == NONE) return (int) cheapestCost;
        return cheapestSets.stream().filter(x -> (x >> guest & 1) == 1).findFirst().get();
    }

    int sit(int plan, int k, int evening) {
        if (!p(plan) || k < 2 || k > 6 || !e(evening)) return NONE;
        List<Table> t = s.plans.get(plan);
        if (t.stream().anyMatch(x -> x.evening() == evening) || cheapest(plan, k, NONE) == OTHERS) return NONE;
        if (t.size() + cheapestSets.size() > 60) return NONE;
        for (int set : cheapestSets) {
            t.add(new Table(set, evening));
        }
        return cheapestSets.size();
    }

    private static List<Table> changed(List<Table> t, int evening, int one, int other) {
        List<Table> c = new ArrayList<>();
        int moved = 0;
        for (Table x : t) {
            boolean a = (x.set() >> one & 1) == 1;
            boolean b = (x.set() >> other & 1) == 1;
            if (x.evening() == evening && a != b) {
                moved++;
                c.add(new Table(x.set() ^ (1 << one) ^ (1 << other), evening));
            } else {
                c.add(x);
            }
        }
        return moved == 2 ? c : null;
    }

    boolean change(int plan, int evening, int one, int other) {
        if (!p(plan) || !e(evening) || !g(one) || !g(other) || one == other) return false;
        List<Table> c = changed(s.plans.get(plan), evening, one, other);
        if (c != null) s.plans.set(plan, c);
        return c != null;
    }

    int best(int plan, int evening, int l, int what) {
        if (!p(plan) || !e(evening) || l < 0 || l > 60 || what < 0 || what > 2) return NONE;
        List<Table> t = s.plans.get(plan);
        int[] found = {NONE, NONE, missOf(t, l)};
        for (int i = 0; i < n; i++) {
            for (int j = i + 1; j < n; j++) {
                List<Table> c = changed(t, evening, i, j);
                if (c != null && missOf(c, l) < found[2]) found = new int[] {i, j, missOf(c, l)};
            }
        }
        return found[0] == NONE ? NONE : found[what];
    }

    /** Who know behind an evening; nobody ahead of s. */
    private int knowing(int plan, int guest, int from, int evening) {
        if (evening < from) return 0;
        int know = 1 << guest;
        for (int i = from; i <= evening; i++) {
            int now = know;
            for (Table t : s.plans.get(plan)) {
                if (t.evening() == i && (t.set() & now) != 0) know |= t.set();
            }
        }
        return know;
    }

    int knows(int plan, int guest, int from, int evening) {
        if (!p(plan) || !g(guest) || !e(from) || !e(evening) || evening < from) return NONE;
        return knowing(plan, guest, from, evening);
    }

    int all(int plan, int guest, int from) {
        if (!p(plan) || !g(guest) || !e(from)) return NONE;
        for (int i = from; i < 12; i++) {
            if (knowing(plan, guest, from, i) == (1 << n) - 1) return i;
        }
        return NONE;
    }

    int ill(int plan, int guest, int from, int d, int evening) {
        if (!p(plan) || !g(guest) || !e(from) || d < 1 || d > 9 || !e(evening) || evening < from) return NONE;
        boolean[][] ill = new boolean[30][n];
        boolean[] had = new boolean[n];
        had[guest] = true;
        for (int i = from; i < from + d; i++) {
            ill[i][guest] = true;
        }
        for (int i = from; i < evening; i++) {
            for (Table t : s.plans.get(plan)) {
                int day = i;
                if (t.evening() == i && members(t.set()).stream().anyMatch(x -> ill[day][x])) {
                    for (int m : members(t.set())) {
                        for (int j = i + 1; !had[m] && j <= i + d; j++) {
                            ill[j][m] = true;
                        }
                        had[m] = true;
                    }
                }
            }
        }
        int set = 0;
        for (int i = 0; i < n; i++) {
            set |= ill[evening][i] ? 1 << i : 0;
        }
        return set;
    }

    int days(int m) {
        if (m < 1 || m > 99 || s.clock + m > 999) return NONE;
        return s.clock += m;
    }

    int read(int guest, int evening, boolean knew) {
        if (!g(guest) || !e(evening) || s.reads.size() == 40) return NONE;
        s.reads.add(new Read(guest, evening, knew, s.clock));
        return s.reads.size();
    }

    private List<int[]> beginnings(int plan, int known) {
        List<int[]> found = new ArrayList<>();
        for (int guest = 0; guest < n; guest++) {
            for (int from = 0; from < 12; from++) {
                boolean so = true;
                for (Read r : s.reads) {
                    boolean knew = (knowing(plan, guest, from, r.evening()) >> r.guest() & 1) == 1;
                    so &= r.day() > known || knew == r.knew();
                }
                if (so) found.add(new int[] {guest, from});
            }
        }
        return found;
    }

    int begun(int plan, int known, int i) {
        if (!p(plan) || known < 0 || known > 999 || i < NONE) return NONE;
        List<int[]> b = beginnings(plan, known);
        return i == NONE ? b.size() : i < b.size() ? 12 * b.get(i)[0] + b.get(i)[1] : NONE;
    }

    int question(int plan, int what) {
        if (!p(plan) || what < 0 || what > 2) return NONE;
        List<int[]> b = beginnings(plan, s.clock);
        int[] found = {NONE, NONE, 0};
        for (int guest = 0; guest < n; guest++) {
            for (int evening = 0; evening < 12; evening++) {
                int yes = 0;
                for (int[] x : b) {
                    yes += knowing(plan, x[0], x[1], evening) >> guest & 1;
                }
                int lesser = Math.min(yes, b.size() - yes);
                if (lesser > found[2]) found = new int[] {guest, evening, lesser};
            }
        }
        return found[2] == 0 ? NONE : found[what];
    }

    int image() {
        kept = s.twin();
        return s.clock;
    }

    int back() {
        s = kept.twin();
        return s.clock;
    }

    int about(int what) {
        if (what == 0) return s.clock;
        if (what == 1) return n;
        if (what == 2) return s.rules.size();
        if (what == 3) return s.reads.size();
        if (what == 4) return tape.length();
        if (what == 5) {
            int q = 0;
            for (boolean[] row : s.foes) {
                for (boolean is : row) {
                    q += is ? 1 : 0;
                }
            }
            return q;
        }
        if (p(what - 10)) return s.plans.get(what - 10).size();
        if (p(what - 20)) return s.laws[what - 20];
        if (p(what - 30)) {
            return (int) s.plans.get(what - 30).stream().map(Table::evening).filter(x -> x != NONE).distinct().count();
        }
        return g(what - 40) ? s.sides[what - 40] : g(what - 60) ? s.ages[what - 60] : NONE;
    }
}
