import java.util.ArrayList;
import java.util.List;
import java.util.Map;
import java.util.function.Function;
import java.util.function.Supplier;
import java.util.function.ToLongFunction;

/**
 * A call for "others", or one that finds all full or nothing there, answers as told and leaves all as it was; and so
 * does every call that only tells. What the club, its tape and its image hold is looked at behind each of them.
 */
public final class RefusedTest {
    private static final int NONE = DinnerRounds.NONE;
    private static final int NO_COST = -10000000;
    private static final int MOST_CALLS = 512;
    private static final Check check = new Check("RefusedTest");

    /** A way to make a club, how many calls that takes, and what is seen of it. */
    private static final class Scene {
        final String name;
        final Supplier<DinnerRounds> make;
        final Map<String, Integer> seen;

        Scene(String name, int calls, Supplier<DinnerRounds> make) {
            this.name = name;
            this.make = make;
            this.seen = Look.whole(make.get());
            check.due("calls of a club " + name, calls + 1 + seen.size() <= MOST_CALLS, true);
        }

        void leaves(String call, ToLongFunction<DinnerRounds> made, long due) {
            DinnerRounds x = make.get();
            check.due(name + ": " + call, made.applyAsLong(x), due);
            Map<String, Integer> behind = Look.whole(x);
            check.due(name + ": " + call + ", then " + Look.apart(seen, behind), seen.equals(behind), true);
        }

        /** A search tells its TRIES behind it, whatever it answers: those aside. */
        void leavesButTries(String call, ToLongFunction<DinnerRounds> ahead, ToLongFunction<DinnerRounds> made,
            long due) {
            DinnerRounds x = make.get();
            DinnerRounds y = make.get();
            ahead.applyAsLong(x);
            ahead.applyAsLong(y);
            check.due(name + ": " + call, made.applyAsLong(x), due);
            Map<String, Integer> behind = Look.whole(x);
            Map<String, Integer> without = Look.whole(y);
            behind.remove("tries");
            without.remove("tries");
            check.due(name + ": " + call + ", then " + Look.apart(without, behind), without.equals(behind), true);
        }
    }

    /** A call, arguments that are right, and the least and the greatest that each of them may be. */
    private record Call(String name, long refused, int[] right, int[][] limits,
        Function<int[], ToLongFunction<DinnerRounds>> of) {
        String with(int[] a) {
            return name + java.util.Arrays.toString(a);
        }
    }

    public static void main(String[] args) {
        List<Scene> scenes = List.of(new Scene("new", 0, () -> new DinnerRounds(6)),
            new Scene("busy", 37, RefusedTest::busy), new Scene("full", 96, RefusedTest::full));
        for (Scene scene : scenes) {
            check.says("a refused call leaves all as it was: " + scene.name);
            othersAreRefused(scene);
            setsAreRefused(scene);
            tellingOnly(scene);
        }
        check.says("what isn't there, or is there already");
        refusedWhenBusy(scenes.get(1));
        check.says("what is full");
        refusedWhenFull(scenes.get(2));
        check.says("with more than 8 GUESTS");
        refusedWithNine(new Scene("nine", 5, RefusedTest::nine));
        check.close();
    }

    private static long is(boolean answer) {
        return answer ? 1 : 0;
    }

    /** Two rules, plans of a few tables, reads on two days, an image of an earlier day, half a text on the tape. */
    private static DinnerRounds busy() {
        DinnerRounds x = new DinnerRounds(6);
        x.guest(0, 1, 30);
        x.guest(1, 2, 40);
        x.guest(5, 3, 99);
        x.quarrel(0, 1, true);
        Check.rule(x, "bar quarrels>0; cost again*100+age;");
        x.by(0, 0);
        x.table(0, 0, 3);
        x.table(0, 0, 12);
        x.table(0, 1, 36);
        x.table(0, NONE, 48);
        x.table(1, 11, 63);
        x.read(0, 0, true);
        x.days(5);
        x.image();
        x.quarrel(4, 5, true);
        Check.rule(x, "cost quarrels*7+sides;");
        x.by(1, 1);
        x.table(1, 3, 7);
        x.table(1, 3, 56);
        x.complete(2, 2, 1, 20000);
        x.clear(2, 14);
        x.clear(2, 13);
        x.days(1);
        x.read(3, 2, false);
        Check.rule(x, "cost 10000;");
        Check.tell(x, "cost age+again*5; bar size=7");
        x.end(17);
        return x;
    }

    /** 60 tables, 4 rules, 40 reads, the last day, 300 bytes on the tape; twelve evenings of plan 1 have tables. */
    private static DinnerRounds full() {
        DinnerRounds x = new DinnerRounds(6);
        x.guest(2, 3, 99);
        x.quarrel(0, 5, true);
        Check.rule(x, "cost again+quarrels*9;");
        x.by(0, 0);
        x.image();
        for (int i = 1; i < 4; i++) {
            Check.rule(x, i == 3 ? "cost age;bar size=2;" : "");
        }
        x.by(1, 3);
        x.complete(0, 2, 4, 20000);
        for (int evening = 0; evening < 12; evening++) {
            x.table(1, evening, 3);
        }
        for (int i = 0; i < 40; i++) {
            x.read(i % 6, 11, i % 6 == 0);
            if (i < 10) {
                x.days(99);
            }
        }
        x.days(9);
        Check.tell(x, "cost 1" + "+1".repeat(146) + "; ");
        return x;
    }

    private static DinnerRounds nine() {
        DinnerRounds x = new DinnerRounds(9);
        x.table(0, 0, 7);
        x.table(1, NONE, 448);
        x.image();
        x.table(0, 1, 56);
        x.part(0, 5);
        return x;
    }

    private static List<Call> calls() {
        int[] plan = {0, 2};
        int[] guest = {0, 5};
        int[] guestOrNone = {-1, 5};
        int[] evening = {0, 11};
        int[] tries = {1, 20000};
        int[] by = {0, 60};
        List<Call> c = new ArrayList<>();
        c.add(new Call("guest", 0, new int[] {1, 2, 33}, new int[][] {guest, {0, 3}, {0, 99}},
            a -> x -> is(x.guest(a[0], a[1], a[2]))));
        c.add(new Call("quarrel", 0, new int[] {2, 3}, new int[][] {guest, guest},
            a -> x -> is(x.quarrel(a[0], a[1], true))));
        c.add(new Call("unquarrel", 0, new int[] {0, 1}, new int[][] {guest, guest},
            a -> x -> is(x.quarrel(a[0], a[1], false))));
        c.add(new Call("table", NONE, new int[] {2, 7, 3}, new int[][] {plan, {-1, 11}, {3, 63}},
            a -> x -> x.table(a[0], a[1], a[2])));
        c.add(new Call("clear", 0, new int[] {0, 0}, new int[][] {plan, {0, 59}}, a -> x -> is(x.clear(a[0], a[1]))));
        c.add(new Call("copy", NONE, new int[] {0, 1}, new int[][] {plan, plan}, a -> x -> x.copy(a[0], a[1])));
        c.add(new Call("at", NONE, new int[] {0, 0, 0}, new int[][] {plan, {0, 59}, {0, 1}},
            a -> x -> x.at(a[0], a[1], a[2])));
        c.add(new Call("meet", NONE, new int[] {0, 1, 4}, new int[][] {plan, guest, guest},
            a -> x -> x.meet(a[0], a[1], a[2])));
        c.add(new Call("miss", NONE, new int[] {0, 1}, new int[][] {plan, by}, a -> x -> x.miss(a[0], a[1])));
        c.add(new Call("counts", NONE, new int[] {9, 3, 1, 0}, new int[][] {{4, 200}, {2, 8}, {1, 50}, {0, 2}},
            a -> x -> x.counts(a[0], a[1], a[2], a[3])));
        c.add(new Call("end", NONE, new int[] {0}, new int[][] {{0, 300}}, a -> x -> x.end(a[0])));
        c.add(new Call("fault", NONE, new int[] {0}, new int[][] {{0, 1}}, a -> x -> x.fault(a[0])));
        c.add(new Call("by", 0, new int[] {0, -1}, new int[][] {plan, {-1, 3}}, a -> x -> is(x.by(a[0], a[1]))));
        c.add(new Call("judged", NO_COST, new int[] {0, 3, 1}, new int[][] {plan, {3, 63}, {0, 1}},
            a -> x -> x.judged(a[0], a[1], a[2])));
        c.add(new Call("complete", NONE, new int[] {1, 3, 2, 500}, new int[][] {plan, {2, 6}, {1, 9}, tries},
            a -> x -> x.complete(a[0], a[1], a[2], a[3])));
        c.add(new Call("part", NONE, new int[] {2, 500}, new int[][] {plan, tries}, a -> x -> x.part(a[0], a[1])));
        c.add(new Call("renamed", NONE, new int[] {0, 0}, new int[][] {plan, guestOrNone},
            a -> x -> x.renamed(a[0], a[1])));
        c.add(new Call("like", NONE, new int[] {0, 1}, new int[][] {plan, plan}, a -> x -> x.like(a[0], a[1])));
        c.add(new Call("cheapest", NO_COST, new int[] {2, 3, 0}, new int[][] {plan, {2, 6}, guestOrNone},
            a -> x -> x.cheapest(a[0], a[1], a[2])));
        c.add(new Call("sit", NONE, new int[] {2, 3, 9}, new int[][] {plan, {2, 6}, evening},
            a -> x -> x.sit(a[0], a[1], a[2])));
        c.add(new Call("change", 0, new int[] {0, 0, 0, 2}, new int[][] {plan, evening, guest, guest},
            a -> x -> is(x.change(a[0], a[1], a[2], a[3]))));
        c.add(new Call("best", NONE, new int[] {0, 0, 1, 0}, new int[][] {plan, evening, by, {0, 2}},
            a -> x -> x.best(a[0], a[1], a[2], a[3])));
        c.add(new Call("knows", NONE, new int[] {0, 0, 0, 11}, new int[][] {plan, guest, evening, evening},
            a -> x -> x.knows(a[0], a[1], a[2], a[3])));
        c.add(new Call("all", NONE, new int[] {1, 0, 0}, new int[][] {plan, guest, evening},
            a -> x -> x.all(a[0], a[1], a[2])));
        c.add(new Call("ill", NONE, new int[] {0, 0, 0, 3, 11}, new int[][] {plan, guest, evening, {1, 9}, evening},
            a -> x -> x.ill(a[0], a[1], a[2], a[3], a[4])));
        c.add(new Call("days", NONE, new int[] {1}, new int[][] {{1, 99}}, a -> x -> x.days(a[0])));
        c.add(new Call("read", NONE, new int[] {0, 0}, new int[][] {guest, evening},
            a -> x -> x.read(a[0], a[1], true)));
        c.add(new Call("begun", NONE, new int[] {0, 0, 0}, new int[][] {plan, {0, 999}, {-1, 71}},
            a -> x -> x.begun(a[0], a[1], a[2])));
        c.add(new Call("question", NONE, new int[] {0, 0}, new int[][] {plan, {0, 2}},
            a -> x -> x.question(a[0], a[1])));
        c.add(new Call("about", NONE, new int[] {0}, new int[][] {{0, 65}}, a -> x -> x.about(a[0])));
        return c;
    }

    /** Each argument by itself just outside of its limits, and as far outside as an int goes. */
    private static void othersAreRefused(Scene scene) {
        for (Call call : calls()) {
            for (int i = 0; i < call.right().length; i++) {
                int[] limits = call.limits()[i];
                for (int value : new int[] {limits[0] - 1, limits[1] + 1, Integer.MIN_VALUE, Integer.MAX_VALUE}) {
                    int[] a = call.right().clone();
                    a[i] = value;
                    scene.leaves(call.with(a), call.of().apply(a), call.refused());
                }
            }
        }
    }

    private static void setsAreRefused(Scene scene) {
        // None, one of them, seven, one who isn't there, and all bits.
        for (int set : new int[] {0, 1, 32, 127, 64 + 1, 192, -1, Integer.MIN_VALUE + 3}) {
            scene.leaves("table of " + set, x -> x.table(2, NONE, set), NONE);
            scene.leaves("table of " + set, x -> x.table(2, 7, set), NONE);
            scene.leaves("judged " + set, x -> x.judged(0, set, 0), NO_COST);
        }
        for (int guest = 0; guest < 6; guest++) {
            int same = guest;
            scene.leaves("quarrel " + same, x -> is(x.quarrel(same, same, true)), 0);
            scene.leaves("meet " + same, x -> x.meet(0, same, same), NONE);
            scene.leaves("change " + same, x -> is(x.change(0, 0, same, same)), 0);
        }
        scene.leaves("evening ahead of s", x -> x.knows(0, 0, 5, 4), NONE);
        scene.leaves("evening ahead of s", x -> x.ill(0, 0, 5, 9, 4), NONE);
        scene.leaves("K that doesn't go into N", x -> x.cheapest(0, 4, NONE), NO_COST);
        scene.leaves("K that doesn't go into N", x -> x.sit(0, 5, 9), NONE);
        scene.leaves("K is V", x -> x.counts(9, 9, 1, 0), NONE);
    }

    /** A call that only tells, with right arguments, leaves all as it was, whatever it answers. */
    private static void tellingOnly(Scene scene) {
        List<String> tell = List.of("at", "meet", "miss", "counts", "fault", "judged", "renamed", "like", "cheapest",
            "best", "knows", "all", "ill", "begun", "question", "about");
        for (Call call : calls()) {
            if (tell.contains(call.name())) {
                ToLongFunction<DinnerRounds> made = call.of().apply(call.right());
                scene.leaves("telling " + call.with(call.right()), made, made.applyAsLong(scene.make.get()));
            }
        }
    }

    private static void refusedWhenBusy(Scene busy) {
        busy.leaves("a guest of that evening", x -> x.table(0, 0, 17), NONE);
        busy.leaves("a guest of that evening", x -> x.table(1, 11, 3), NONE);
        busy.leaves("behind the last table", x -> is(x.clear(0, 4)), 0);
        busy.leaves("behind the last table", x -> is(x.clear(2, 13)), 0);
        busy.leaves("behind the tape's end", x -> x.end(18), NONE);
        busy.leaves("behind the last rule", x -> is(x.by(2, 2)), 0);
        busy.leaves("at one table", x -> is(x.change(0, 0, 0, 1)), 0);
        busy.leaves("one at none", x -> is(x.change(0, 0, 0, 4)), 0);
        busy.leaves("one at none", x -> is(x.change(0, 0, 4, 0)), 0);
        busy.leaves("an evening without tables", x -> is(x.change(0, 2, 0, 2)), 0);
        busy.leaves("an evening that has tables", x -> x.sit(0, 2, 1), NONE);
        busy.leaves("an evening that has tables", x -> x.sit(1, 6, 11), NONE);
        busy.leavesButTries("too few tries", x -> 0, x -> x.complete(1, 2, 3, 7), -2);
        busy.leavesButTries("it can't be", x -> 0, x -> x.complete(0, 6, 1, 20000), NONE);
        busy.leavesButTries("too few tries", x -> x.complete(2, 2, 1, 2), x -> x.part(2, 14), -2);
        busy.leavesButTries("it can't be", x -> 0, x -> x.part(0, 20000), NONE);
    }

    private static void refusedWhenFull(Scene full) {
        full.leaves("the 61st table", x -> x.table(0, NONE, 3), NONE);
        full.leaves("the 61st table", x -> x.table(0, 0, 48), NONE);
        full.leaves("sat beyond 60", x -> x.sit(0, 6, 0), NONE);
        full.leaves("the 41st read", x -> x.read(0, 0, true), NONE);
        full.leaves("a day beyond", x -> x.days(1), NONE);
        full.leaves("days beyond", x -> x.days(99), NONE);
        full.leaves("bytes beyond", x -> x.feed(0x30303030, 0, -1, 1, 2), NONE);
        full.leaves("a fifth rule", x -> x.rule(), NONE);
        full.leaves("a fifth rule", x -> is(x.by(0, 4)), 0);
        full.leaves("no such table", x -> is(x.clear(0, 60)), 0);
        full.leavesButTries("60 are there", x -> 0, x -> x.complete(0, 2, 5, 20000), NONE);
        full.leavesButTries("all are barred", x -> 0, x -> x.complete(1, 2, 1, 20000), NONE);
        full.leavesButTries("no evening is left", x -> x.table(1, NONE, 63), x -> x.part(1, 20000), NONE);
    }

    private static void refusedWithNine(Scene nine) {
        nine.leaves("renamed", x -> x.renamed(0, NONE), NONE);
        nine.leaves("renamed", x -> x.renamed(0, 0), NONE);
        nine.leaves("like", x -> x.like(0, 1), NONE);
        nine.leaves("like", x -> x.like(0, 0), NONE);
    }
}
