/** Promises 26 to 32: the rumour, the cold, what is read, who can have begun it, the question. */
public final class RumoursTest {
    private static final int NONE = DinnerRounds.NONE;
    private static final Check check = new Check("RumoursTest");

    public static void main(String[] args) {
        knowing();
        beingIll();
        days();
        reading();
        beginnings();
        asking();
        check.close();
    }

    /** Evening 0: 0 1, 2 3; evening 2: 1 2; evening 5: 3 4 5; evening 11: 0 5. */
    private static DinnerRounds club() {
        DinnerRounds x = new DinnerRounds(6);
        x.table(0, 5, 56);
        x.table(0, 0, 12);
        x.table(0, NONE, 33);
        x.table(0, 2, 6);
        x.table(0, 0, 3);
        x.table(0, 11, 33);
        return x;
    }

    private static void knowing() {
        DinnerRounds x = club();
        int[][] rows = {{0, 0, 0, 3}, {0, 0, 1, 3}, {0, 0, 2, 7}, {0, 0, 5, 7}, {0, 0, 11, 39}, {0, 1, 1, 1},
            {0, 1, 11, 33}, {3, 0, 0, 12}, {3, 0, 2, 14}, {3, 0, 5, 62}, {3, 0, 11, 63}, {3, 0, 10, 62}, {4, 5, 5, 56},
            {4, 6, 11, 16}, {5, 11, 11, 33}};
        for (int[] r : rows) {
            check.due("knows " + java.util.Arrays.toString(r), x.knows(0, r[0], r[1], r[2]), r[3]);
        }
        check.due("ahead of s", x.knows(0, 0, 3, 2), NONE);
        check.due("evening 12", x.knows(0, 0, 3, 12), NONE);
        check.due("s -1", x.knows(0, 0, -1, 2), NONE);
        check.due("s 12", x.knows(0, 0, 12, 12), NONE);
        check.due("guest 6", x.knows(0, 6, 0, 0), NONE);
        check.due("guest -1", x.knows(0, -1, 0, 0), NONE);
        check.due("plan 3", x.knows(3, 0, 0, 0), NONE);
        check.due("all", x.all(0, 3, 0), 11);
        check.due("not by 11", x.all(0, 0, 0), NONE);
        check.due("all too late", x.all(0, 3, 1), NONE);
        x.clear(0, 5);
        x.table(0, 3, 33);
        check.due("all, one lacks", x.all(0, 3, 0), NONE);
        x.table(0, 6, 63);
        check.due("all at one", x.all(0, 0, 6), 6);
        check.due("all, from 7", x.all(0, 0, 7), NONE);
        check.due("all guest 6", x.all(0, 6, 0), NONE);
        check.due("all s 12", x.all(0, 0, 12), NONE);
        check.due("all s -1", x.all(0, 0, -1), NONE);
        check.due("all plan 3", x.all(3, 0, 0), NONE);
    }

    private static void beingIll() {
        DinnerRounds x = club();
        int[][] rows = {{0, 0, 1, 0, 1}, {0, 0, 1, 1, 2}, {0, 0, 1, 2, 0}, {0, 0, 1, 3, 0}, {0, 0, 2, 1, 3},
            {0, 0, 2, 2, 2}, {0, 0, 2, 3, 4}, {0, 0, 2, 4, 4}, {0, 0, 2, 5, 0}, {0, 0, 9, 8, 7}, {0, 0, 9, 9, 6},
            {0, 0, 9, 11, 4}, {3, 0, 5, 5, 6}, {3, 0, 6, 5, 14}, {3, 0, 6, 6, 54}, {3, 0, 6, 11, 48},
            {3, 5, 9, 11, 56}, {3, 11, 9, 11, 8}};
        for (int[] r : rows) {
            check.due("ill " + java.util.Arrays.toString(r), x.ill(0, r[0], r[1], r[2], r[3]), r[4]);
        }
        DinnerRounds y = new DinnerRounds(4);
        for (int evening = 0; evening < 6; evening++) {
            y.table(0, evening, 3);
        }
        check.due("0 has it", y.ill(0, 0, 0, 1, 0), 1);
        check.due("1 has it", y.ill(0, 0, 0, 1, 1), 2);
        check.due("each once", y.ill(0, 0, 0, 1, 2), 0);
        check.due("ahead of s", x.ill(0, 0, 3, 1, 2), NONE);
        check.due("evening 12", x.ill(0, 0, 3, 1, 12), NONE);
        check.due("d 0", x.ill(0, 0, 0, 0, 0), NONE);
        check.due("d 10", x.ill(0, 0, 0, 10, 0), NONE);
        check.due("guest 6", x.ill(0, 6, 0, 1, 0), NONE);
        check.due("s -1", x.ill(0, 0, -1, 1, 0), NONE);
        check.due("plan 3", x.ill(3, 0, 0, 1, 0), NONE);
    }

    private static void days() {
        DinnerRounds x = new DinnerRounds(4);
        check.due("0", x.days(0), NONE);
        check.due("-1", x.days(-1), NONE);
        check.due("100", x.days(100), NONE);
        check.due("most of an int", x.days(Integer.MAX_VALUE), NONE);
        for (int i = 1; i <= 10; i++) {
            check.due("99", x.days(99), 99 * i);
        }
        check.due("beyond", x.days(10), NONE);
        check.due("to the last", x.days(9), 999);
        check.due("beyond", x.days(1), NONE);
        check.due("the clock", x.about(0), 999);
    }

    private static void reading() {
        DinnerRounds x = new DinnerRounds(4);
        check.due("guest 4", x.read(4, 0, true), NONE);
        check.due("guest -1", x.read(-1, 0, true), NONE);
        check.due("evening 12", x.read(0, 12, true), NONE);
        check.due("evening -1", x.read(0, -1, true), NONE);
        for (int i = 1; i <= 40; i++) {
            check.due("read", x.read(3, 11, true), i);
        }
        check.due("the 41st", x.read(3, 11, true), NONE);
        check.due("40 are", x.about(3), 40);
    }

    private static void beginnings() {
        DinnerRounds x = club();
        check.due("nothing read", x.begun(0, 0, NONE), 72);
        for (int i = 0; i < 72; i++) {
            check.due("beginning " + i, x.begun(0, 0, i), i);
        }
        check.due("no more", x.begun(0, 0, 72), NONE);
        x.days(10);
        x.read(2, 2, true);
        // 0 and 1 in evening 0, 1 and 2 up to evening 2, 2 and 3 in evening 0.
        int[] due = {0, 12, 13, 14, 24, 25, 26, 36};
        check.due("ahead of that day", x.begun(0, 9, NONE), 72);
        check.due("on that day", x.begun(0, 10, NONE), due.length);
        for (int i = 0; i < due.length; i++) {
            check.due("beginning " + i, x.begun(0, 10, i), due[i]);
        }
        x.days(1);
        x.read(2, 1, false);
        check.due("as known then", x.begun(0, 10, NONE), due.length);
        check.due("as known now", x.begun(0, 11, NONE), 5);
        int[] fewer = {0, 12, 13, 14, 26};
        for (int i = 0; i < fewer.length; i++) {
            check.due("beginning " + i, x.begun(0, 999, i), fewer[i]);
        }
        check.due("in a plan without tables", x.begun(1, 999, NONE), 1);
        check.due("in a plan without tables", x.begun(1, 999, 0), 26);
        x.read(2, 2, false);
        check.due("both can't be", x.begun(0, 999, NONE), 0);
        check.due("the first of none", x.begun(0, 999, 0), NONE);
        check.due("day 1000", x.begun(0, 1000, NONE), NONE);
        check.due("day -1", x.begun(0, -1, NONE), NONE);
        check.due("i -2", x.begun(0, 0, -2), NONE);
        check.due("plan 3", x.begun(3, 0, NONE), NONE);
        check.due("plan -1", x.begun(-1, 0, NONE), NONE);
    }

    private static void asking() {
        DinnerRounds x = new DinnerRounds(4);
        // Without tables a guest knows behind evening e, if it began with that one in 0 .. e.
        check.due("guest", x.question(0, 0), 0);
        check.due("evening", x.question(0, 1), 11);
        check.due("lesser", x.question(0, 2), 12);
        x.read(1, 4, true);
        check.due("guest", x.question(0, 0), 1);
        check.due("evening", x.question(0, 1), 1);
        check.due("lesser", x.question(0, 2), 2);
        x.days(1);
        x.read(1, 2, false);
        check.due("evening", x.question(0, 1), 3);
        check.due("lesser", x.question(0, 2), 1);
        x.read(1, 3, true);
        check.due("none", x.question(0, 0), NONE);
        check.due("none", x.question(0, 1), NONE);
        check.due("none", x.question(0, 2), NONE);
        DinnerRounds y = club();
        y.read(2, 2, true);
        // Of eight beginnings 0 knows from evening 0 by two, and by evening 11 by two more, that came by 3 and 5.
        check.due("the guest", y.question(0, 0), 0);
        check.due("the evening", y.question(0, 1), 11);
        check.due("half each", y.question(0, 2), 4);
        check.due("what 3", y.question(0, 3), NONE);
        check.due("what -1", y.question(0, -1), NONE);
        check.due("plan 3", y.question(3, 0), NONE);
        check.due("plan -1", y.question(-1, 0), NONE);
    }
}
