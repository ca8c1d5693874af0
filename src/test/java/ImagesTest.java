/** Promises 33 to 35: the image, going back to it, and what is told about all. */
public final class ImagesTest {
    private static final int NONE = DinnerRounds.NONE;
    private static final Check check = new Check("ImagesTest");

    public static void main(String[] args) {
        keeping();
        rulesGone();
        notKept();
        telling();
        check.close();
    }

    private static void keeping() {
        DinnerRounds x = new DinnerRounds(6);
        x.guest(1, 2, 33);
        x.quarrel(0, 1, true);
        x.table(0, 2, 7);
        x.table(2, NONE, 9);
        x.days(5);
        x.read(0, 0, true);
        x.complete(1, 2, 1, 20000);
        Check.rule(x, "bar size=2;cost 3;");
        x.by(0, 0);
        check.due("image", x.image(), 5);
        x.guest(1, 3, 44);
        x.quarrel(0, 1, false);
        x.quarrel(2, 3, true);
        x.clear(0, 0);
        x.table(0, 0, 48);
        x.table(2, 0, 3);
        x.days(7);
        x.read(1, 1, false);
        x.part(1, 1);
        x.by(0, NONE);
        check.due("another try", x.tries(), 1);
        check.due("back", x.back(), 5);
        for (int i = 0; i < 2; i++) {
            check.due("clock", x.about(0), 5);
            check.due("side", x.about(41), 2);
            check.due("age", x.about(61), 33);
            check.due("quarrels", x.about(5), 1);
            check.due("quarrel", x.judged(0, 3, 1), 3);
            check.due("set", x.at(0, 0, 0), 7);
            check.due("evening", x.at(0, 0, 1), 2);
            check.due("meet", x.meet(0, 0, 1), 1);
            check.due("meet", x.meet(0, 4, 5), 0);
            check.due("tables", x.about(10) * 100 + x.about(11) * 10 + x.about(12), 251);
            check.due("rule", x.about(20), 0);
            check.due("read", x.about(3), 1);
            check.due("tries", x.tries(), 15);
            x.clear(0, 0);
            x.clear(2, 0);
            x.table(2, 3, 9);
            x.days(1);
            x.by(0, NONE);
            x.complete(1, 2, 1, 1);
            check.due("the image stays", x.back(), 5);
        }
        x.days(1);
        check.due("a new image", x.image(), 6);
        x.days(1);
        check.due("back to that", x.back(), 6);
    }

    private static void rulesGone() {
        DinnerRounds x = new DinnerRounds(4);
        Check.rule(x, "cost 1;");
        x.image();
        for (int i = 1; i < 4; i++) {
            Check.rule(x, "cost 2;");
        }
        x.by(0, 3);
        x.back();
        check.due("rules", x.about(2), 1);
        check.due("the plan's", x.about(20), NONE);
        check.due("by a rule that is gone", x.by(0, 1), false);
        check.due("room again", Check.rule(x, "cost 5;"), 1);
        x.by(0, 1);
        x.by(1, 0);
        check.due("the new one", x.judged(0, 3, 1), 5);
        check.due("the old one", x.judged(1, 3, 1), 1);
    }

    private static void notKept() {
        DinnerRounds x = new DinnerRounds(4);
        Check.rule(x, "cost $;");
        x.image();
        Check.rule(x, "cost 10000;");
        x.feed(0, 0, 0, 0, 0);
        x.back();
        check.due("the latest fault stays", x.fault(0), 2);
        check.due("its place", x.fault(1), 5);
        check.due("the tape stays", x.about(4), 20);
    }

    private static void telling() {
        DinnerRounds x = new DinnerRounds(5);
        x.table(1, 3, 3);
        x.table(1, 3, 12);
        x.table(1, 4, 12);
        x.table(1, NONE, 12);
        x.guest(4, 3, 9);
        x.feed(0, 0, 0, 0, 0);
        int[][] rows = {{0, 0}, {1, 5}, {2, 0}, {3, 0}, {4, 20}, {5, 0}, {6, NONE}, {9, NONE}, {10, 0}, {11, 4},
            {12, 0}, {13, NONE}, {19, NONE}, {20, NONE}, {22, NONE}, {23, NONE}, {30, 0}, {31, 2}, {32, 0}, {33, NONE},
            {39, NONE}, {40, 0}, {44, 3}, {45, NONE}, {51, NONE}, {60, 0}, {64, 9}, {65, NONE}, {-1, NONE},
            {Integer.MIN_VALUE, NONE}, {Integer.MAX_VALUE, NONE}};
        for (int[] r : rows) {
            check.due("about " + r[0], x.about(r[0]), r[1]);
        }
        DinnerRounds y = new DinnerRounds(12);
        y.guest(11, 1, 2);
        check.due("side of the last", y.about(51), 1);
        check.due("age of the last", y.about(71), 2);
        check.due("behind it", y.about(52), NONE);
        check.due("behind it", y.about(72), NONE);
    }
}
