/** Promises 1 to 10, each sentence that names an edge: at it, and at the first value on either side of it. */
public final class PlanEdgesTest {
    private static final int NONE = DinnerRounds.NONE;
    private static final int LEAST = Integer.MIN_VALUE;
    private static final int MOST = Integer.MAX_VALUE;
    private static final Check check = new Check("PlanEdgesTest");

    public static void main(String[] args) {
        howManyGuests();
        newObject();
        guests();
        quarrels();
        tablePlacesAndEvenings();
        tableSets();
        tablesOfAnEvening();
        sixtyTables();
        clearing();
        copying();
        lookingAt();
        meetings();
        missing();
        countLimits();
        countBars();
        check.close();
    }

    private static void howManyGuests() {
        check.says("1: N GUESTS (4 to 12; others: the nearest of these)");
        int[][] rows = {{3, 4}, {4, 4}, {5, 5}, {6, 6}, {7, 7}, {8, 8}, {9, 9}, {10, 10}, {11, 11}, {12, 12}, {13, 12},
            {0, 4}, {-1, 4}, {LEAST, 4}, {MOST, 12}};
        for (int[] r : rows) {
            check.due(new DinnerRounds(r[0]).about(1), r[1]);
        }
        check.says("Terms: GUESTS 0 .. N - 1");
        for (int n = 4; n <= 12; n++) {
            DinnerRounds x = new DinnerRounds(n);
            check.due(x.guest(-1, 1, 1), false);
            check.due(x.guest(0, 1, 1), true);
            check.due(x.guest(n - 1, 1, 1), true);
            check.due(x.guest(n, 1, 1), false);
            check.due(x.table(0, NONE, 1 | 1 << n - 1), 0);
            check.due(x.table(0, NONE, 1 | 1 << n), NONE);
            check.due(x.meet(0, 0, n - 1), 1);
            check.due(x.meet(0, 0, n), NONE);
        }
    }

    private static void newObject() {
        check.says("1: no TABLES; Terms: SIDE at first 0, AGE 0, DAYS at first 0, THE RULE at first none");
        for (int n = 4; n <= 12; n += 4) {
            DinnerRounds x = new DinnerRounds(n);
            for (int plan = 0; plan < 3; plan++) {
                check.due(x.about(10 + plan), 0);
                check.due(x.about(20 + plan), NONE);
                check.due(x.about(30 + plan), 0);
                check.due(x.at(plan, 0, 0), NONE);
                check.due(x.judged(plan, 3, 0), 0);
                check.due(x.judged(plan, 3, 1), 0);
            }
            for (int guest = 0; guest < n; guest++) {
                check.due(x.about(40 + guest), 0);
                check.due(x.about(60 + guest), 0);
            }
            int[] due = {0, n, 0, 0, 0, 0};
            for (int what = 0; what < due.length; what++) {
                check.due(x.about(what), due[what]);
            }
            check.due(x.tries(), NONE);
            check.due(x.fault(0), NONE);
        }
        check.says("1: THE IMAGE is this");
        DinnerRounds x = new DinnerRounds(6);
        x.guest(5, 3, 99);
        x.quarrel(4, 5, true);
        x.table(0, 0, 3);
        x.table(2, NONE, 48);
        Check.rule(x, "bar size=2; cost 9;");
        x.by(1, 0);
        x.days(99);
        x.read(0, 0, true);
        x.complete(1, 2, 1, 1);
        check.due(x.back(), 0);
        check.due("behind back: " + Look.apart(Look.club(x), Look.club(new DinnerRounds(6))),
            Look.club(x).equals(Look.club(new DinnerRounds(6))), true);
    }

    private static void guests() {
        DinnerRounds x = new DinnerRounds(6);
        check.says("2: SIDE (0 .. 3); false for others");
        int[][] sides = {{-1, 0}, {0, 1}, {1, 1}, {2, 1}, {3, 1}, {4, 0}, {LEAST, 0}, {MOST, 0}};
        for (int[] r : sides) {
            x.guest(2, 1, 50);
            check.due(x.guest(2, r[0], 51), r[1] == 1);
            check.due(x.about(42), r[1] == 1 ? r[0] : 1);
            check.due(x.about(62), r[1] == 1 ? 51 : 50);
        }
        check.says("2: AGE (0 .. 99); false for others");
        int[][] ages = {{-1, 0}, {0, 1}, {1, 1}, {98, 1}, {99, 1}, {100, 0}, {LEAST, 0}, {MOST, 0}};
        for (int[] r : ages) {
            x.guest(2, 1, 50);
            check.due(x.guest(2, 3, r[0]), r[1] == 1);
            check.due(x.about(42), r[1] == 1 ? 3 : 1);
            check.due(x.about(62), r[1] == 1 ? r[0] : 50);
        }
        check.says("2: a GUEST; false for others");
        int[][] guests = {{-1, 0}, {0, 1}, {5, 1}, {6, 0}, {12, 0}, {LEAST, 0}, {MOST, 0}};
        for (int[] r : guests) {
            check.due(x.guest(r[0], 2, 22), r[1] == 1);
        }
        check.due(x.about(40), 2);
        check.due(x.about(41), 0);
        check.due(x.about(45), 2);
    }

    private static void quarrels() {
        DinnerRounds x = new DinnerRounds(6);
        check.says("3: two GUESTS; false for others, and one and the same");
        int[][] rows = {{-1, 0, 0}, {0, -1, 0}, {0, 6, 0}, {6, 0, 0}, {0, 0, 0}, {5, 5, 0}, {-1, -1, 0}, {6, 6, 0},
            {LEAST, 0, 0}, {0, MOST, 0}, {0, 5, 1}, {5, 4, 1}, {0, 1, 1}};
        for (int[] r : rows) {
            int before = x.about(5);
            check.due(x.quarrel(r[0], r[1], true), r[2] == 1);
            check.due(x.about(5), before + r[2]);
        }
        check.says("3: QUARREL, or not any more (told again; never told)");
        check.due(x.quarrel(5, 0, true), true);
        check.due(x.about(5), 3);
        check.due(x.quarrel(2, 3, false), true);
        check.due(x.about(5), 3);
        check.due(x.quarrel(0, 0, false), false);
        check.due(x.quarrel(0, 6, false), false);
        check.due(x.about(5), 3);
        check.due(x.quarrel(5, 0, false), true);
        check.due(x.about(5), 2);
        check.due(x.quarrel(5, 0, false), true);
        check.due(x.about(5), 2);
        check.says("3: QUARRELS are pairs: all of twelve GUESTS");
        DinnerRounds y = new DinnerRounds(12);
        int pairs = 0;
        for (int one = 0; one < 12; one++) {
            for (int other = 0; other < one; other++) {
                check.due(y.quarrel(one, other, true), true);
                pairs++;
                check.due(y.about(5), pairs);
            }
        }
        check.due(pairs, 66);
    }

    private static void tablePlacesAndEvenings() {
        check.says("4: PLANS 0 .. 2; NONE for others");
        int[][] plans = {{-1, NONE}, {0, 0}, {1, 0}, {2, 0}, {3, NONE}, {LEAST, NONE}, {MOST, NONE}};
        DinnerRounds x = new DinnerRounds(6);
        for (int[] r : plans) {
            check.due(x.table(r[0], 0, 3), r[1]);
        }
        check.due(x.about(10) + x.about(11) + x.about(12), 3);
        check.says("4: an EVENING (0 .. 11), or none (NONE); NONE for others");
        int[][] evenings = {{-2, NONE}, {-1, 0}, {0, 1}, {1, 2}, {10, 3}, {11, 4}, {12, NONE}, {LEAST, NONE},
            {MOST, NONE}};
        x = new DinnerRounds(6);
        for (int[] r : evenings) {
            check.due(x.table(0, r[0], 3), r[1]);
        }
        int[] due = {NONE, 0, 1, 10, 11};
        for (int i = 0; i < due.length; i++) {
            check.due(x.at(0, i, 1), due[i]);
        }
        check.due(x.about(10), 5);
        check.due(x.about(30), 4);
    }

    private static void tableSets() {
        check.says("4: a SET of 2 to 6 GUESTS; NONE for others");
        DinnerRounds x = new DinnerRounds(12);
        int tables = 0;
        for (int size = 0; size <= 12; size++) {
            boolean right = size >= 2 && size <= 6;
            check.due(x.table(0, NONE, (1 << size) - 1), right ? tables : NONE);
            check.due(x.table(0, NONE, (1 << size) - 1 << 12 - size), right ? tables + 1 : NONE);
            tables += right ? 2 : 0;
            check.due(x.about(10), tables);
        }
        check.says("4: GUESTS that there aren't");
        x = new DinnerRounds(6);
        int[][] rows = {{33, 0}, {65, NONE}, {96, NONE}, {192, NONE}, {3 | 1 << 30, NONE}, {LEAST | 1, NONE},
            {LEAST, NONE}, {LEAST | 3, NONE}, {-1, NONE}, {MOST, NONE}, {63, 1}, {64, NONE}, {127, NONE}, {-2, NONE},
            {48, 2}};
        for (int[] r : rows) {
            check.due(x.table(0, NONE, r[0]), r[1]);
        }
        check.due(x.about(10), 3);
    }

    private static void tablesOfAnEvening() {
        check.says("4: one who is at a TABLE of that EVENING");
        DinnerRounds x = new DinnerRounds(8);
        check.due(x.table(0, 0, Check.set(0, 1)), 0);
        check.due(x.table(0, 0, Check.set(1, 2)), NONE);
        check.due(x.table(0, 0, Check.set(0, 7)), NONE);
        check.due(x.table(0, 0, Check.set(0, 1)), NONE);
        check.due(x.at(0, 1, 0), NONE);
        check.due(x.table(0, 0, Check.set(2, 3)), 1);
        check.due(x.table(0, 0, Check.set(3, 4, 5)), NONE);
        check.due(x.table(0, 0, Check.set(4, 5, 6, 7)), 2);
        check.due(x.table(0, 0, Check.set(6, 7)), NONE);
        check.due(x.about(10), 3);
        check.says("Terms: in one EVENING a GUEST is at one TABLE at most (in another, in none, in another PLAN more)");
        check.due(x.table(0, 1, Check.set(0, 1)), 3);
        check.due(x.table(0, 11, Check.set(0, 1)), 4);
        check.due(x.table(0, NONE, Check.set(0, 1)), 5);
        check.due(x.table(0, NONE, Check.set(0, 1)), 6);
        check.due(x.table(1, 0, Check.set(0, 1)), 0);
        check.due(x.table(1, 1, Check.set(0, 1)), 1);
        check.due(x.clear(0, 0), true);
        check.due(x.table(0, 0, Check.set(1, 2)), NONE);
        check.due(x.table(0, 0, Check.set(0, 1)), 6);
    }

    private static void sixtyTables() {
        check.says("4: NONE if there are 60; Terms: TABLES (60 at most each), numbered from 0");
        DinnerRounds x = new DinnerRounds(4);
        for (int i = 0; i < 60; i++) {
            check.due(x.table(1, NONE, 3), i);
        }
        check.due(x.table(1, NONE, 3), NONE);
        check.due(x.table(1, 0, 12), NONE);
        check.due(x.about(11), 60);
        check.due(x.meet(1, 0, 1), 60);
        check.due(x.meet(1, 2, 3), 0);
        check.due(x.at(1, 59, 0), 3);
        check.due(x.at(1, 60, 0), NONE);
        for (int i = 0; i < 60; i++) {
            check.due(x.table(2, i < 12 ? i : NONE, 12), i);
        }
        check.due(x.table(2, NONE, 12), NONE);
        check.due(x.table(0, 0, 3), 0);
        check.due(x.clear(1, 0), true);
        check.due(x.table(1, 0, 12), 59);
        check.due(x.table(1, 1, 12), NONE);
    }

    private static void clearing() {
        check.says("5: false if there is none such");
        DinnerRounds x = new DinnerRounds(6);
        check.due(x.clear(0, 0), false);
        check.due(x.clear(0, -1), false);
        for (int i = 0; i < 4; i++) {
            x.table(0, i, 3 << i);
        }
        int[][] refused = {{0, -1}, {0, 4}, {0, LEAST}, {0, MOST}, {-1, 0}, {3, 0}, {1, 0}, {2, 3}, {LEAST, 0},
            {MOST, 0}};
        for (int[] r : refused) {
            check.due(x.clear(r[0], r[1]), false);
            check.due(x.about(10), 4);
        }
        check.says("5: a TABLE goes, those behind it are numbered one less");
        check.due(x.clear(0, 1), true);
        rows(x, 0, new int[][] {{3, 0}, {12, 2}, {24, 3}});
        check.due(x.clear(0, 2), true);
        rows(x, 0, new int[][] {{3, 0}, {12, 2}});
        check.due(x.clear(0, 2), false);
        check.due(x.clear(0, 0), true);
        rows(x, 0, new int[][] {{12, 2}});
        check.due(x.clear(0, 0), true);
        check.due(x.clear(0, 0), false);
        check.due(x.about(10), 0);
        check.due(x.miss(0, 0), 0);
        check.says("5: of 60 the last, and none behind it");
        x.complete(2, 2, 4, 20000);
        check.due(x.about(12), 60);
        check.due(x.clear(2, 60), false);
        check.due(x.clear(2, 59), true);
        check.due(x.clear(2, 59), false);
        check.due(x.about(12), 59);
    }

    private static void rows(DinnerRounds x, int plan, int[][] due) {
        check.due(x.about(10 + plan), due.length);
        for (int i = 0; i < due.length; i++) {
            check.due(x.at(plan, i, 0), due[i][0]);
            check.due(x.at(plan, i, 1), due[i][1]);
        }
        check.due(x.at(plan, due.length, 0), NONE);
    }

    private static void copying() {
        check.says("6: NONE for others");
        DinnerRounds x = new DinnerRounds(6);
        x.table(0, 0, 3);
        x.table(2, 1, 12);
        x.table(2, NONE, 12);
        int[][] refused = {{-1, 0}, {0, -1}, {3, 0}, {0, 3}, {LEAST, 2}, {2, MOST}};
        for (int[] r : refused) {
            check.due(x.copy(r[0], r[1]), NONE);
            rows(x, 0, new int[][] {{3, 0}});
            rows(x, 2, new int[][] {{12, 1}, {12, NONE}});
        }
        check.says("6: the TABLES and THE RULE of another one: how many TABLES (0, few, 60)");
        Check.rule(x, "cost 1;");
        Check.rule(x, "cost 2;");
        x.by(0, 0);
        x.by(2, 1);
        check.due(x.copy(0, 2), 1);
        rows(x, 2, new int[][] {{3, 0}});
        check.due(x.about(22), 0);
        check.due(x.meet(2, 2, 3), 0);
        check.due(x.copy(1, 0), 0);
        rows(x, 0, new int[][] {});
        check.due(x.about(20), NONE);
        check.due(x.miss(0, 0), 0);
        rows(x, 2, new int[][] {{3, 0}});
        x.complete(1, 2, 4, 20000);
        check.due(x.copy(1, 2), 60);
        check.due(x.about(12), 60);
        check.due(x.miss(2, 4), 0);
        check.due(x.at(2, 59, 0), x.at(1, 59, 0));
        check.due(x.table(2, NONE, 3), NONE);
        check.due(x.copy(2, 0), 60);
        check.due(x.about(10), 60);
        check.says("6: they are two PLANS behind it");
        check.due(x.clear(2, 0), true);
        check.due(x.about(10), 60);
        check.due(x.about(11), 60);
        check.due(x.meet(2, 0, 1), 3);
        check.due(x.meet(1, 0, 1), 4);
    }

    private static void lookingAt() {
        check.says("7: 0 its SET, 1 its EVENING (NONE); NONE if there is none such, and for others");
        DinnerRounds x = new DinnerRounds(12);
        x.table(2, 0, 3);
        x.table(2, 11, 4032);
        x.table(2, NONE, 2049);
        int[][] rows = {{2, -1, 0, NONE}, {2, 0, 0, 3}, {2, 0, 1, 0}, {2, 1, 0, 4032}, {2, 1, 1, 11}, {2, 2, 0, 2049},
            {2, 2, 1, NONE}, {2, 3, 0, NONE}, {2, 3, 1, NONE}, {2, 0, -1, NONE}, {2, 0, 2, NONE}, {2, 0, LEAST, NONE},
            {2, 0, MOST, NONE}, {2, LEAST, 0, NONE}, {2, MOST, 0, NONE}, {-1, 0, 0, NONE}, {3, 0, 0, NONE},
            {0, 0, 0, NONE}, {1, 0, 0, NONE}, {LEAST, 0, 0, NONE}, {MOST, 0, 0, NONE}};
        for (int[] r : rows) {
            check.due(x.at(r[0], r[1], r[2]), r[3]);
        }
    }

    private static void meetings() {
        check.says("8: MEET: how many TABLES have both; NONE for others, and one and the same");
        DinnerRounds x = new DinnerRounds(6);
        x.table(0, 0, 33);
        x.table(0, NONE, 33);
        x.table(2, NONE, 63);
        int[][] rows = {{0, 0, 5, 2}, {0, 5, 0, 2}, {0, 0, 4, 0}, {0, 4, 5, 0}, {2, 0, 5, 1}, {1, 0, 5, 0},
            {0, -1, 5, NONE}, {0, 0, -1, NONE}, {0, 6, 0, NONE}, {0, 0, 6, NONE}, {0, 0, 0, NONE}, {0, 5, 5, NONE},
            {0, 6, 6, NONE}, {-1, 0, 5, NONE}, {3, 0, 5, NONE}, {LEAST, 0, 5, NONE}, {MOST, 0, 5, NONE},
            {0, LEAST, 5, NONE}, {0, 0, MOST, NONE}};
        for (int[] r : rows) {
            check.due(x.meet(r[0], r[1], r[2]), r[3]);
        }
    }

    private static void missing() {
        check.says("9: MISS by L (0 .. 60); NONE for others");
        DinnerRounds x = new DinnerRounds(4);
        int[][] empty = {{-1, NONE}, {0, 0}, {1, 6}, {59, 354}, {60, 360}, {61, NONE}, {LEAST, NONE}, {MOST, NONE}};
        for (int[] r : empty) {
            check.due(x.miss(0, r[0]), r[1]);
        }
        check.due(x.miss(-1, 0), NONE);
        check.due(x.miss(2, 0), 0);
        check.due(x.miss(3, 0), NONE);
        check.says("9: by how much MEET and L are apart, above and below");
        for (int i = 0; i < 60; i++) {
            x.table(2, NONE, 3);
        }
        int[][] full = {{0, 60}, {1, 64}, {59, 296}, {60, 300}, {61, NONE}};
        for (int[] r : full) {
            check.due(x.miss(2, r[0]), r[1]);
        }
    }

    private static void counts(int[][] rows) {
        DinnerRounds x = new DinnerRounds(4);
        for (int[] r : rows) {
            check.due(x.counts(r[0], r[1], r[2], r[3]), r[4]);
        }
    }

    private static void countLimits() {
        check.says("10: V 3 .. 200; NONE for others");
        counts(new int[][] {{2, 2, 1, 1, NONE}, {2, 1, 1, 1, NONE}, {3, 2, 1, 1, 2}, {4, 2, 1, 1, 3},
            {199, 2, 1, 1, 198}, {200, 2, 1, 1, 199}, {201, 2, 1, 1, NONE}, {0, 2, 1, 1, NONE}, {-1, 2, 1, 1, NONE},
            {LEAST, 2, 1, 1, NONE}, {MOST, 2, 1, 1, NONE}});
        check.says("10: K 2 .. V - 1; NONE for others");
        counts(new int[][] {{9, 1, 1, 1, NONE}, {9, 2, 1, 1, 8}, {9, 3, 1, 1, 4}, {9, 7, 1, 1, 1}, {9, 8, 1, 1, 1},
            {9, 9, 1, 1, NONE}, {9, 10, 1, 1, NONE}, {9, 0, 1, 1, NONE}, {3, 2, 1, 1, 2}, {3, 3, 1, 1, NONE},
            {200, 199, 1, 1, 1}, {200, 200, 1, 1, NONE}, {9, LEAST, 1, 1, NONE}, {9, MOST, 1, 1, NONE},
            {LEAST, LEAST, 1, 1, NONE}});
        check.says("10: L 1 .. 50; NONE for others");
        counts(new int[][] {{9, 3, 0, 1, NONE}, {9, 3, 1, 1, 4}, {9, 3, 2, 1, 8}, {9, 3, 49, 1, 196},
            {9, 3, 50, 1, 200}, {9, 3, 51, 1, NONE}, {9, 3, -1, 1, NONE}, {9, 3, LEAST, 1, NONE},
            {9, 3, MOST, 1, NONE}});
        check.says("10: 0 what bars it, 1 R (cut), 2 B by that R (cut); NONE for others");
        counts(new int[][] {{9, 3, 1, -1, NONE}, {9, 3, 1, 0, 0}, {9, 3, 1, 1, 4}, {9, 3, 1, 2, 12}, {9, 3, 1, 3, NONE},
            {9, 3, 1, LEAST, NONE}, {9, 3, 1, MOST, NONE}, {8, 3, 1, 1, 3}, {8, 3, 1, 2, 8}, {8, 3, 3, 1, 10},
            {8, 3, 3, 2, 26}, {200, 2, 50, 1, 9950}, {200, 2, 50, 2, 995000}, {200, 199, 50, 1, 50},
            {200, 199, 50, 2, 50}, {200, 3, 50, 1, 4975}, {200, 3, 50, 2, 331666}});
    }

    private static void countBars() {
        check.says("Terms: 1 R isn't whole");
        counts(new int[][] {{8, 3, 1, 0, 1}, {8, 3, 2, 0, 2}, {8, 3, 3, 0, 1}, {6, 5, 1, 0, 1}, {200, 199, 50, 0, 1}});
        check.says("Terms: 2 B isn't (though it is below V too, or K doesn't go into V)");
        counts(new int[][] {{10, 4, 1, 0, 2}, {5, 3, 1, 0, 2}, {8, 3, 2, 0, 2}, {5, 3, 3, 0, 4}});
        check.says("Terms: 3 B is below V (as many are not)");
        counts(new int[][] {{16, 6, 1, 0, 3}, {16, 6, 2, 0, 4}, {7, 3, 1, 0, 4}, {21, 6, 1, 0, 3}, {25, 10, 3, 0, 3},
            {13, 4, 1, 0, 4}, {3, 2, 1, 0, 4}, {9, 8, 7, 0, 4}});
        check.says("Terms: 4 K doesn't go into V; 0 none");
        counts(new int[][] {{7, 3, 1, 0, 4}, {9, 3, 1, 0, 0}, {13, 3, 1, 0, 4}, {15, 3, 1, 0, 0}, {200, 2, 1, 0, 0},
            {199, 2, 1, 0, 4}, {4, 2, 1, 0, 0}, {8, 4, 3, 0, 0}});
    }
}
