/** Promises 1 to 10: a new object, guests, quarrels, tables, meetings, counts. */
public final class PlansTest {
    private static final int NONE = DinnerRounds.NONE;
    private static final Check check = new Check("PlansTest");

    public static void main(String[] args) {
        newObject();
        guests();
        quarrels();
        tables();
        clearing();
        copying();
        lookingAt();
        meetings();
        missing();
        counting();
        check.close();
    }

    private static void newObject() {
        int[][] asked = {{4, 4}, {12, 12}, {7, 7}, {3, 4}, {0, 4}, {-5, 4}, {13, 12}, {Integer.MAX_VALUE, 12},
            {Integer.MIN_VALUE, 4}};
        for (int[] a : asked) {
            DinnerRounds x = new DinnerRounds(a[0]);
            check.due("N of " + a[0], x.about(1), a[1]);
            check.due("no tables", x.about(10) + x.about(11) + x.about(12), 0);
            check.due("no rule", x.about(20), NONE);
            check.due("clock", x.about(0), 0);
            check.due("tries", x.tries(), NONE);
            check.due("fault", x.fault(0), NONE);
        }
        DinnerRounds x = new DinnerRounds(5);
        x.table(0, 0, 3);
        x.guest(1, 2, 3);
        x.quarrel(0, 1, true);
        x.days(4);
        x.read(0, 0, true);
        check.due("back to the first image", x.back(), 0);
        check.due("tables gone", x.about(10), 0);
        check.due("side gone", x.about(41), 0);
        check.due("quarrel gone", x.about(5), 0);
        check.due("read gone", x.about(3), 0);
    }

    private static void guests() {
        DinnerRounds x = new DinnerRounds(5);
        check.due("guest", x.guest(4, 3, 99), true);
        check.due("side", x.about(44), 3);
        check.due("age", x.about(64), 99);
        check.due("guest 5", x.guest(5, 0, 0), false);
        check.due("guest -1", x.guest(-1, 0, 0), false);
        check.due("side 4", x.guest(4, 4, 1), false);
        check.due("side -1", x.guest(4, -1, 1), false);
        check.due("age 100", x.guest(4, 1, 100), false);
        check.due("age -1", x.guest(4, 1, -1), false);
        check.due("side stays", x.about(44), 3);
        check.due("age stays", x.about(64), 99);
        check.due("others at first", x.about(40) + x.about(60), 0);
    }

    private static void quarrels() {
        DinnerRounds x = new DinnerRounds(4);
        check.due("quarrel", x.quarrel(0, 3, true), true);
        check.due("twice the same", x.quarrel(3, 0, true), true);
        check.due("one pair", x.about(5), 1);
        check.due("another", x.quarrel(1, 2, true), true);
        check.due("two pairs", x.about(5), 2);
        check.due("not any more", x.quarrel(3, 0, false), true);
        check.due("one left", x.about(5), 1);
        check.due("never was", x.quarrel(0, 1, false), true);
        check.due("one and the same", x.quarrel(2, 2, true), false);
        check.due("no guest", x.quarrel(0, 4, true), false);
        check.due("no guest", x.quarrel(-1, 0, true), false);
    }

    private static void tables() {
        DinnerRounds x = new DinnerRounds(8);
        check.due("first", x.table(0, 0, 7), 0);
        check.due("without evening", x.table(0, NONE, 7), 1);
        check.due("once more", x.table(0, NONE, 7), 2);
        check.due("a guest there already", x.table(0, 0, Check.set(2, 5)), NONE);
        check.due("others that evening", x.table(0, 0, Check.set(3, 4, 5, 6, 7)), 3);
        check.due("another plan", x.table(1, 0, 7), 0);
        check.due("another evening", x.table(0, 11, 63), 4);
        check.due("evening 12", x.table(0, 12, 3), NONE);
        check.due("evening -2", x.table(0, -2, 3), NONE);
        check.due("plan 3", x.table(3, 0, 3), NONE);
        check.due("plan -1", x.table(-1, 0, 3), NONE);
        check.due("one guest", x.table(0, NONE, 4), NONE);
        check.due("none", x.table(0, NONE, 0), NONE);
        check.due("seven", x.table(0, NONE, 127), NONE);
        check.due("no such guest", x.table(0, NONE, 256 + 1), NONE);
        check.due("below 0", x.table(0, NONE, Integer.MIN_VALUE + 1), NONE);
        check.due("five stand", x.about(10), 5);
        for (int i = 5; i < 60; i++) {
            check.due("table " + i, x.table(0, NONE, 3), i);
        }
        check.due("the 61st", x.table(0, NONE, 3), NONE);
        check.due("evenings", x.about(30), 2);
    }

    private static void clearing() {
        DinnerRounds x = new DinnerRounds(6);
        x.table(2, 0, 3);
        x.table(2, 1, 5);
        x.table(2, NONE, 9);
        check.due("clear", x.clear(2, 1), true);
        check.due("moved up", x.at(2, 1, 0), 9);
        check.due("moved up", x.at(2, 1, 1), NONE);
        check.due("gone", x.at(2, 2, 0), NONE);
        check.due("meet gone", x.meet(2, 0, 2), 0);
        check.due("evenings", x.about(32), 1);
        check.due("no such", x.clear(2, 2), false);
        check.due("-1", x.clear(2, -1), false);
        check.due("plan 3", x.clear(3, 0), false);
        check.due("other plan", x.clear(0, 0), false);
        check.due("place is free again", x.table(2, 1, 5), 2);
    }

    private static void copying() {
        DinnerRounds x = new DinnerRounds(6);
        Check.rule(x, "bar size > 2;");
        x.table(0, 3, 7);
        x.table(0, NONE, 24);
        x.by(0, 0);
        x.table(1, 5, 48);
        check.due("copy", x.copy(0, 1), 2);
        check.due("set", x.at(1, 0, 0), 7);
        check.due("evening", x.at(1, 0, 1), 3);
        check.due("rule", x.about(21), 0);
        check.due("meet", x.meet(1, 0, 1), 1);
        check.due("the old is gone", x.meet(1, 4, 5), 0);
        x.clear(0, 0);
        check.due("they are apart", x.about(11), 2);
        check.due("an empty one", x.copy(2, 1), 0);
        check.due("its rule too", x.about(21), NONE);
        check.due("itself", x.copy(0, 0), 1);
        check.due("itself stays", x.at(0, 0, 0), 24);
        check.due("plan 3", x.copy(3, 0), NONE);
        check.due("plan 3", x.copy(0, 3), NONE);
        check.due("plan -1", x.copy(-1, 0), NONE);
    }

    private static void lookingAt() {
        DinnerRounds x = new DinnerRounds(6);
        x.table(0, 4, 33);
        check.due("set", x.at(0, 0, 0), 33);
        check.due("evening", x.at(0, 0, 1), 4);
        check.due("what 2", x.at(0, 0, 2), NONE);
        check.due("what -1", x.at(0, 0, -1), NONE);
        check.due("table 1", x.at(0, 1, 0), NONE);
        check.due("table -1", x.at(0, -1, 0), NONE);
        check.due("plan 3", x.at(3, 0, 0), NONE);
    }

    private static void meetings() {
        DinnerRounds x = new DinnerRounds(6);
        x.table(0, 4, 7);
        x.table(0, NONE, 3);
        check.due("twice", x.meet(0, 0, 1), 2);
        check.due("either way", x.meet(0, 1, 0), 2);
        check.due("once", x.meet(0, 2, 1), 1);
        check.due("never", x.meet(0, 2, 3), 0);
        check.due("another plan", x.meet(1, 0, 1), 0);
        check.due("one and the same", x.meet(0, 1, 1), NONE);
        check.due("no guest", x.meet(0, 1, 6), NONE);
        check.due("no guest", x.meet(0, -1, 1), NONE);
        check.due("no plan", x.meet(3, 0, 1), NONE);
    }

    private static void missing() {
        DinnerRounds x = new DinnerRounds(4);
        x.table(0, 4, 7);
        x.table(0, NONE, 3);
        check.due("by 0", x.miss(0, 0), 4);
        check.due("by 1", x.miss(0, 1), 4);
        check.due("by 2", x.miss(0, 2), 8);
        check.due("by 60", x.miss(0, 60), 356);
        check.due("by 61", x.miss(0, 61), NONE);
        check.due("by -1", x.miss(0, -1), NONE);
        check.due("plan", x.miss(3, 0), NONE);
    }

    private static void counting() {
        DinnerRounds x = new DinnerRounds(4);
        int[][] rows = {{15, 3, 1, 0, 0}, {15, 3, 1, 1, 7}, {15, 3, 1, 2, 35}, {7, 3, 1, 0, 4}, {8, 4, 3, 0, 0},
            {6, 4, 1, 0, 1}, {6, 4, 1, 1, 1}, {6, 4, 1, 2, 1}, {5, 3, 1, 0, 2}, {5, 3, 1, 1, 2}, {5, 3, 1, 2, 3},
            {21, 6, 1, 0, 3}, {3, 2, 1, 0, 4}, {3, 2, 1, 2, 3}, {200, 2, 50, 1, 9950}, {200, 2, 50, 2, 995000},
            {200, 199, 50, 0, 1}, {2, 2, 1, 0, NONE}, {201, 3, 1, 0, NONE}, {9, 1, 1, 0, NONE}, {9, 9, 1, 0, NONE},
            {9, 8, 7, 0, 4}, {9, 3, 0, 0, NONE}, {9, 3, 51, 0, NONE}, {9, 3, 1, 3, NONE}, {9, 3, 1, -1, NONE}};
        for (int[] r : rows) {
            check.due("counts " + java.util.Arrays.toString(r), x.counts(r[0], r[1], r[2], r[3]), r[4]);
        }
    }
}
