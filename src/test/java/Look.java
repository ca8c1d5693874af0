import java.util.LinkedHashMap;
import java.util.Map;

/** All that can be seen of a club through its face, under names, so that two clubs can be set side by side. */
final class Look {
    private static final int NONE = DinnerRounds.NONE;

    private final DinnerRounds x;
    private final Map<String, Integer> seen = new LinkedHashMap<>();
    private String ahead = "";

    private Look(DinnerRounds x) {
        this.x = x;
    }

    /** What an image keeps, by calls that change nothing: as many as there are names. */
    static Map<String, Integer> club(DinnerRounds x) {
        Look look = new Look(x);
        look.lookAtClub();
        return look.seen;
    }

    /** All, the tape and the image too: these calls change the club, so it is of no more use then. */
    static Map<String, Integer> whole(DinnerRounds x) {
        Look look = new Look(x);
        look.lookAtClub();
        look.lookAtTape();
        look.ahead = "behind back: ";
        look.see("back", x.back());
        look.lookAtClub();
        look.readTape();
        return look.seen;
    }

    /** The first of what was seen that the two don't have alike, or an empty text. */
    static String apart(Map<String, Integer> one, Map<String, Integer> other) {
        for (Map.Entry<String, Integer> e : one.entrySet()) {
            if (!e.getValue().equals(other.get(e.getKey()))) {
                return e.getKey() + " is " + e.getValue() + " and " + other.get(e.getKey());
            }
        }
        return one.size() == other.size() ? "" : "one has more to see";
    }

    private void see(String name, int answer) {
        seen.put(ahead + name, answer);
    }

    private void lookAtClub() {
        for (int what : new int[] {0, 1, 2, 3, 5, 10, 11, 12, 20, 21, 22, 30, 31, 32}) {
            see("about " + what, x.about(what));
        }
        int n = seen.get(ahead + "about 1");
        for (int guest = 0; guest < n; guest++) {
            see("side " + guest, x.about(40 + guest));
            see("age " + guest, x.about(60 + guest));
        }
        see("tries", x.tries());
        for (int plan = 0; plan < 3; plan++) {
            lookAtPlan(plan, n);
        }
    }

    private void lookAtPlan(int plan, int n) {
        String of = " of " + plan;
        int tables = seen.get(ahead + "about " + (10 + plan));
        for (int table = 0; table < tables; table++) {
            see("set " + table + of, x.at(plan, table, 0));
            see("evening " + table + of, x.at(plan, table, 1));
        }
        for (int one = 0; one < n; one++) {
            for (int other = one + 1; other < n; other++) {
                see("meet " + one + " " + other + of, x.meet(plan, one, other));
            }
        }
        see("miss 0" + of, x.miss(plan, 0));
        see("miss 2" + of, x.miss(plan, 2));
        for (int guest = 0; guest + 1 < n; guest++) {
            see("cost of " + guest + of, x.judged(plan, 3 << guest, 1));
        }
        see("barred" + of, x.judged(plan, 3, 0));
        for (int day : new int[] {0, 6, 999}) {
            see("begun by " + day + of, x.begun(plan, day, NONE));
        }
        see("begun first" + of, x.begun(plan, 999, 0));
        see("question" + of, x.question(plan, 0));
        see("question's evening" + of, x.question(plan, 1));
    }

    private void lookAtTape() {
        see("bytes", x.about(4));
        see("fault", x.fault(0));
        see("place", x.fault(1));
    }

    private void readTape() {
        lookAtTape();
        see("rule", x.rule());
        see("read fault", x.fault(0));
        see("read place", x.fault(1));
        see("by the last rule", x.by(0, seen.get(ahead + "rule")) ? 1 : 0);
        for (int guest = 0; guest < 3; guest++) {
            see("read cost " + guest, x.judged(0, 3 << guest, 1));
        }
    }
}
