/** Promises 26 to 35, each sentence that names an edge: at it, and at the first value on either side of it. */
public final class SpreadEdgesTest {
    private static final int NONE = DinnerRounds.NONE;
    private static final int LEAST = Integer.MIN_VALUE;
    private static final int MOST = Integer.MAX_VALUE;
    private static final Check check = new Check("SpreadEdgesTest");

    public static void main(String[] args) {
        knowLimits();
        knowing();
        allKnow();
        illLimits();
        illSpans();
        illOnce();
        dayLimits();
        readLimits();
        begunLimits();
        begunDays();
        begunEvenings();
        questionLimits();
        questionOfMany();
        questionNone();
        images();
        imageOfRules();
        imageLeavesTape();
        aboutRanges();
        check.close();
    }

    /** Six guests: 0 and 1 in evening 0, 1 and 2 in evening 1, and so on to 5; all of them in evening 11. */
    private static DinnerRounds chain() {
        DinnerRounds x = new DinnerRounds(6);
        for (int evening = 0; evening < 5; evening++) {
            x.table(0, evening, 3 << evening);
        }
        x.table(0, 11, 63);
        return x;
    }

    private static void knowLimits() {
        check.says("26: an EVENING (not ahead of s), s (0 .. 11); NONE for others");
        DinnerRounds x = chain();
        int[][] rows = {{0, 0, 0, -1, NONE}, {0, 0, 0, 0, 3}, {0, 0, 0, 1, 7}, {0, 0, 0, 10, 63}, {0, 0, 0, 11, 63},
            {0, 0, 0, 12, NONE}, {0, 0, -1, -1, NONE}, {0, 0, -1, 0, NONE}, {0, 0, 1, 0, NONE}, {0, 0, 1, 1, 1},
            {0, 0, 1, 2, 1}, {0, 3, 5, 4, NONE}, {0, 3, 5, 5, 8}, {0, 0, 11, 10, NONE}, {0, 0, 11, 11, 63},
            {0, 0, 11, 12, NONE}, {0, 0, 12, 12, NONE}, {0, 0, 12, 11, NONE}, {0, 0, LEAST, 0, NONE},
            {0, 0, 0, MOST, NONE}, {0, 0, LEAST, LEAST, NONE}, {0, 0, MOST, MOST, NONE}};
        for (int[] r : rows) {
            check.due(x.knows(r[0], r[1], r[2], r[3]), r[4]);
        }
        check.says("26: a PLAN, a GUEST; NONE for others");
        int[][] others = {{0, -1, NONE}, {0, 0, 1}, {0, 5, 32}, {0, 6, NONE}, {-1, 0, NONE}, {2, 0, 1}, {3, 0, NONE},
            {LEAST, 0, NONE}, {MOST, 0, NONE}, {0, LEAST, NONE}, {0, MOST, NONE}};
        for (int[] r : others) {
            check.due(x.knows(r[0], r[1], 7, 9), r[2]);
        }
    }

    private static void knowing() {
        check.says("Terms: all of a TABLE with one who knew ahead of it know behind it");
        DinnerRounds x = chain();
        for (int evening = 0; evening < 5; evening++) {
            check.due(x.knows(0, 0, 0, evening), (4 << evening) - 1);
            check.due(x.knows(0, 5, 0, evening), evening < 4 ? 32 : 48);
            check.due(x.knows(0, evening, evening, evening), 3 << evening);
            check.due(x.knows(0, evening, evening + 1, evening + 1), evening == 4 ? 16 : 1 << evening);
        }
        check.says("Terms: TABLES without an EVENING, and of another PLAN, tell nothing");
        DinnerRounds y = new DinnerRounds(4);
        y.table(0, NONE, 15);
        y.table(1, 0, 15);
        check.due(y.knows(0, 0, 0, 11), 1);
        check.due(y.ill(0, 0, 0, 9, 8), 1);
        check.due(y.all(0, 0, 0), NONE);
        check.due(y.all(1, 0, 0), 0);
        check.says("Terms: of two TABLES of one EVENING each by itself");
        y.table(2, 0, 3);
        y.table(2, 0, 12);
        check.due(y.knows(2, 1, 0, 0), 3);
        check.due(y.knows(2, 2, 0, 0), 12);
    }

    private static void allKnow() {
        check.says("27: the first EVENING behind which all know; NONE: not by 11");
        DinnerRounds x = chain();
        int[][] rows = {{0, 0, 4}, {1, 0, 4}, {2, 0, 11}, {0, 1, 11}, {5, 4, 11}, {0, 11, 11}, {0, 12, NONE},
            {0, -1, NONE}, {0, LEAST, NONE}, {0, MOST, NONE}, {-1, 0, NONE}, {6, 0, NONE}, {LEAST, 0, NONE},
            {MOST, 0, NONE}};
        for (int[] r : rows) {
            check.due(x.all(0, r[0], r[1]), r[2]);
        }
        int[][] plans = {{-1, NONE}, {1, NONE}, {2, NONE}, {3, NONE}, {LEAST, NONE}, {MOST, NONE}};
        for (int[] r : plans) {
            check.due(x.all(r[0], 0, 0), r[1]);
        }
        x.clear(0, 5);
        check.due(x.all(0, 0, 0), 4);
        check.due(x.all(0, 2, 0), NONE);
        x.table(0, 10, 63);
        check.due(x.all(0, 2, 0), 10);
        check.due(x.all(0, 2, 10), 10);
        check.due(x.all(0, 2, 11), NONE);
    }

    private static void illLimits() {
        check.says("28: of D EVENINGS (1 .. 9); NONE for others");
        DinnerRounds x = chain();
        int[][] spans = {{-1, NONE}, {0, NONE}, {1, 1}, {2, 1}, {8, 1}, {9, 1}, {10, NONE}, {LEAST, NONE},
            {MOST, NONE}};
        for (int[] r : spans) {
            check.due(x.ill(0, 0, 5, r[0], 5), r[1]);
        }
        check.says("28: in an EVENING (not ahead of s); NONE for others");
        int[][] rows = {{0, -1, NONE}, {0, 0, 1}, {1, 0, NONE}, {1, 1, 1}, {5, 4, NONE}, {5, 5, 1}, {5, 6, 1},
            {11, 10, NONE}, {11, 11, 1}, {11, 12, NONE}, {12, 12, NONE}, {12, 11, NONE}, {-1, 0, NONE}, {-1, -1, NONE},
            {LEAST, 0, NONE}, {0, MOST, NONE}, {MOST, MOST, NONE}, {LEAST, LEAST, NONE}};
        for (int[] r : rows) {
            check.due(x.ill(0, 0, r[0], 9, r[1]), r[2]);
        }
        check.says("28: a PLAN, a GUEST; NONE for others");
        int[][] others = {{0, -1, NONE}, {0, 0, 1}, {0, 5, 32}, {0, 6, NONE}, {-1, 0, NONE}, {2, 0, 1}, {3, 0, NONE},
            {LEAST, 0, NONE}, {MOST, 0, NONE}, {0, LEAST, NONE}, {0, MOST, NONE}};
        for (int[] r : others) {
            check.due(x.ill(r[0], r[1], 7, 1, 7), r[2]);
        }
    }

    private static void illSpans() {
        check.says("Terms: who has it at its beginning is ill in s, .. s + D - 1");
        DinnerRounds x = new DinnerRounds(4);
        for (int d = 1; d <= 9; d++) {
            for (int s = 0; s < 12; s += 4) {
                for (int evening = s; evening < 12; evening++) {
                    check.due(x.ill(0, 2, s, d, evening), evening <= s + d - 1 ? 4 : 0);
                }
            }
        }
        check.says("Terms: who was at a TABLE with an ill one in EVENING e is ill in e + 1, .. e + D");
        for (int d = 1; d <= 9; d++) {
            DinnerRounds y = new DinnerRounds(4);
            y.table(0, 1, 3);
            for (int evening = 1; evening < 12; evening++) {
                int first = evening <= d ? 1 : 0;
                int second = evening >= 2 && evening <= 1 + d ? 2 : 0;
                check.due(y.ill(0, 0, 1, d, evening), first | second);
            }
        }
        check.says("Terms: whoever has it, and whoever catches it");
        for (int one = 0; one < 6; one++) {
            for (int other = 0; other < 6; other++) {
                DinnerRounds y = new DinnerRounds(6);
                if (one != other) {
                    y.table(0, 5, 1 << one | 1 << other);
                }
                int both = 1 << one | 1 << other;
                check.due(y.knows(0, one, 4, 4), 1 << one);
                check.due(y.knows(0, one, 4, 5), both);
                check.due(y.ill(0, one, 4, 3, 5), 1 << one);
                check.due(y.ill(0, one, 4, 3, 6), both);
                check.due(y.ill(0, one, 4, 3, 7), both & ~(1 << one));
                check.due(y.ill(0, one, 4, 3, 8), both & ~(1 << one));
                check.due(y.ill(0, one, 4, 3, 9), 0);
            }
        }
        check.says("Terms: in the last EVENING of an ill one it is caught, in the next it isn't");
        for (int evening = 2; evening <= 4; evening++) {
            DinnerRounds y = new DinnerRounds(4);
            y.table(0, evening, 3);
            check.due(y.ill(0, 0, 0, 4, evening), evening == 4 ? 0 : 1);
            check.due(y.ill(0, 0, 0, 4, evening + 1), evening == 4 ? 0 : evening == 2 ? 3 : 2);
        }
        check.says("Terms: who catches it in EVENING 11 is ill in none");
        DinnerRounds y = new DinnerRounds(4);
        y.table(0, 11, 15);
        check.due(y.ill(0, 0, 11, 9, 11), 1);
        check.due(y.ill(0, 0, 3, 9, 11), 1);
        check.due(y.ill(0, 0, 2, 9, 11), 0);
        check.says("Terms: who catches it isn't ill in that EVENING yet, and makes none ill in it");
        DinnerRounds z = chain();
        check.due(z.ill(0, 0, 0, 1, 0), 1);
        check.due(z.ill(0, 0, 0, 1, 1), 2);
        check.due(z.ill(0, 0, 0, 1, 4), 16);
        check.due(z.ill(0, 0, 0, 1, 5), 32);
        check.due(z.ill(0, 0, 0, 1, 6), 0);
        check.due(z.ill(0, 0, 0, 9, 5), 63);
    }

    private static void illOnce() {
        check.says("Terms: and never had it; each once");
        DinnerRounds x = new DinnerRounds(4);
        for (int evening = 0; evening < 12; evening++) {
            x.table(0, evening, 3);
        }
        for (int d = 1; d <= 9; d++) {
            for (int evening = 0; evening < 12; evening++) {
                int first = evening < d ? 1 : 0;
                int second = evening >= 1 && evening <= d ? 2 : 0;
                check.due(x.ill(0, 0, 0, d, evening), first | second);
            }
        }
    }

    private static void dayLimits() {
        check.says("29: n DAYS go by (1 .. 99): the clock; NONE for others");
        int[][] rows = {{-1, NONE}, {0, NONE}, {1, 1}, {2, 2}, {98, 98}, {99, 99}, {100, NONE}, {LEAST, NONE},
            {MOST, NONE}};
        for (int[] r : rows) {
            DinnerRounds x = new DinnerRounds(4);
            check.due(x.days(r[0]), r[1]);
            check.due(x.about(0), Math.max(0, r[1]));
        }
        check.says("29: NONE: or beyond 999");
        for (int last = 1; last <= 12; last++) {
            DinnerRounds x = new DinnerRounds(4);
            for (int i = 1; i <= 10; i++) {
                check.due(x.days(99), 99 * i);
            }
            check.due(x.days(last), last <= 9 ? 990 + last : NONE);
            check.due(x.about(0), last <= 9 ? 990 + last : 990);
            check.due(x.days(99), NONE);
        }
        DinnerRounds x = new DinnerRounds(4);
        for (int i = 0; i < 10; i++) {
            x.days(99);
        }
        check.due(x.days(8), 998);
        check.due(x.days(2), NONE);
        check.due(x.days(1), 999);
        check.due(x.days(1), NONE);
        check.due(x.about(0), 999);
    }

    private static void readLimits() {
        check.says("30: a GUEST, an EVENING (0 .. 11); NONE for others");
        int[][] rows = {{-1, 0, NONE}, {0, 0, 1}, {5, 0, 2}, {6, 0, NONE}, {LEAST, 0, NONE}, {MOST, 0, NONE},
            {0, -1, NONE}, {0, 11, 3}, {0, 12, NONE}, {0, LEAST, NONE}, {0, MOST, NONE}};
        DinnerRounds x = new DinnerRounds(6);
        int reads = 0;
        for (int[] r : rows) {
            check.due(x.read(r[0], r[1], true), r[2]);
            reads = Math.max(reads, r[2]);
            check.due(x.about(3), reads);
        }
        check.says("30: how many are; NONE if there are 40");
        DinnerRounds y = new DinnerRounds(4);
        for (int i = 1; i <= 40; i++) {
            check.due(y.read(3, 11, i < 40), i);
        }
        // The 40th counts: none can have begun what was so and wasn't.
        check.due(y.begun(0, 0, NONE), 0);
        check.due(y.read(0, 0, false), NONE);
        check.due(y.about(3), 40);
        check.says("30: a 41st is none, so that it rules nothing out");
        DinnerRounds z = new DinnerRounds(4);
        for (int i = 1; i <= 40; i++) {
            z.read(3, 11, true);
        }
        int before = z.begun(0, 0, NONE);
        check.due(before, 12);
        check.due(z.read(3, 11, false), NONE);
        check.due(z.begun(0, 0, NONE), before);
    }

    private static void begunLimits() {
        check.says("31: as KNOWN (0 .. 999), a PLAN; NONE for others");
        DinnerRounds x = new DinnerRounds(4);
        int[][] days = {{-1, NONE}, {0, 48}, {1, 48}, {998, 48}, {999, 48}, {1000, NONE}, {LEAST, NONE}, {MOST, NONE}};
        for (int[] r : days) {
            check.due(x.begun(0, r[0], NONE), r[1]);
        }
        int[][] plans = {{-1, NONE}, {0, 48}, {2, 48}, {3, NONE}, {LEAST, NONE}, {MOST, NONE}};
        for (int[] r : plans) {
            check.due(x.begun(r[0], 0, NONE), r[1]);
        }
        check.says("31: how many (i NONE), the i-th: 12 * GUEST + EVENING; NONE if there is none such");
        int[][] rows = {{-2, NONE}, {-1, 48}, {0, 0}, {11, 11}, {12, 12}, {46, 46}, {47, 47}, {48, NONE}, {LEAST, NONE},
            {MOST, NONE}};
        for (int[] r : rows) {
            check.due(x.begun(0, 0, r[0]), r[1]);
        }
        DinnerRounds y = new DinnerRounds(12);
        check.due(y.begun(0, 0, NONE), 144);
        check.due(y.begun(0, 0, 143), 143);
        check.due(y.begun(0, 0, 144), NONE);
        y.read(11, 11, true);
        y.read(11, 10, false);
        check.due(y.begun(0, 0, NONE), 1);
        check.due(y.begun(0, 0, 0), 143);
        check.due(y.begun(0, 0, 1), NONE);
        y.read(11, 11, false);
        check.due(y.begun(0, 0, NONE), 0);
        check.due(y.begun(0, 0, 0), NONE);
    }

    private static void begunDays() {
        check.says("Terms: all READ that were TOLD on k or ahead");
        DinnerRounds x = new DinnerRounds(4);
        x.read(0, 11, true);
        x.days(5);
        x.read(0, 5, true);
        x.days(1);
        x.read(0, 1, true);
        int[][] rows = {{0, 12}, {1, 12}, {4, 12}, {5, 6}, {6, 2}, {7, 2}, {999, 2}};
        for (int[] r : rows) {
            check.due(x.begun(0, r[0], NONE), r[1]);
        }
        check.says("30: TOLD on the clock's DAY, the last of them too");
        DinnerRounds y = new DinnerRounds(4);
        for (int i = 0; i < 10; i++) {
            y.days(99);
        }
        y.days(8);
        y.read(1, 11, true);
        y.days(1);
        y.read(1, 0, true);
        int[][] last = {{0, 48}, {997, 48}, {998, 12}, {999, 1}, {1000, NONE}};
        for (int[] r : last) {
            check.due(y.begun(0, r[0], NONE), r[1]);
        }
        check.due(y.begun(0, 999, 0), 12);
    }

    private static void begunEvenings() {
        check.says("Terms: behind EVENINGS ahead of s nobody knows, nor that GUEST");
        for (int evening = 0; evening < 12; evening++) {
            DinnerRounds x = new DinnerRounds(4);
            x.image();
            x.read(2, evening, true);
            check.due(x.begun(0, 0, NONE), evening + 1);
            check.due(x.begun(0, 0, 0), 24);
            check.due(x.begun(0, 0, evening), 24 + evening);
            check.due(x.begun(0, 0, evening + 1), NONE);
            x.back();
            x.read(2, evening, false);
            check.due(x.begun(0, 0, NONE), 36 + 11 - evening);
            check.due(x.begun(0, 0, 24), evening == 11 ? 36 : 24 + evening + 1);
        }
        check.says("Terms: by GUEST, then s");
        DinnerRounds x = chain();
        x.read(2, 1, true);
        int[] due = {0, 12, 13, 24, 25};
        check.due(x.begun(0, 0, NONE), due.length);
        for (int i = 0; i < due.length; i++) {
            check.due(x.begun(0, 0, i), due[i]);
        }
        x.read(2, 0, false);
        // 2 from evening 0 knew behind it already.
        check.due(x.begun(0, 0, NONE), 4);
        check.due(x.begun(0, 0, 3), 25);
        check.says("31: in another PLAN they are others");
        check.due(x.begun(1, 0, NONE), 1);
        check.due(x.begun(1, 0, 0), 25);
    }

    private static void questionLimits() {
        check.says("32: 0 the GUEST, 1 the EVENING, 2 the lesser number; NONE for others");
        DinnerRounds x = new DinnerRounds(4);
        int[][] rows = {{0, -1, NONE}, {0, 0, 0}, {0, 1, 11}, {0, 2, 12}, {0, 3, NONE}, {0, LEAST, NONE},
            {0, MOST, NONE}, {-1, 0, NONE}, {2, 1, 11}, {3, 0, NONE}, {LEAST, 0, NONE}, {MOST, 0, NONE}};
        for (int[] r : rows) {
            check.due(x.question(r[0], r[1]), r[2]);
        }
        check.says("Terms: of like ones the first by GUEST, then EVENING");
        x.read(3, 3, true);
        // Four beginnings, from 0 .. 3 with guest 3: behind evening 1 two and two.
        check.due(x.question(0, 0), 3);
        check.due(x.question(0, 1), 1);
        check.due(x.question(0, 2), 2);
        x.read(3, 0, false);
        // Three: behind evening 1 one and two, and behind evening 2 two and one.
        check.due(x.question(0, 1), 1);
        check.due(x.question(0, 2), 1);
        DinnerRounds y = chain();
        y.read(2, 1, true);
        y.read(2, 0, false);
        // From 0 in 0, from 1 in 0 and 1, from 2 in 1: 0 knew behind 0 by two of four.
        check.due(y.question(0, 0), 0);
        check.due(y.question(0, 1), 0);
        check.due(y.question(0, 2), 2);
    }

    private static void questionOfMany() {
        check.says("Terms: the lesser of those by which that GUEST knew, and by which not, is greatest");
        DinnerRounds x = new DinnerRounds(4);
        for (int evening = 0; evening < 12; evening++) {
            x.table(0, evening, 15);
        }
        // Behind evening e all know by those from 0 .. e, four each.
        check.due(x.question(0, 0), 0);
        check.due(x.question(0, 1), 5);
        check.due(x.question(0, 2), 24);
        x.read(0, 0, false);
        // From 1 .. 11: behind 5 there are 20 and 24, behind 6 there are 24 and 20.
        check.due(x.begun(0, 0, NONE), 44);
        check.due(x.question(0, 1), 5);
        check.due(x.question(0, 2), 20);
        x.read(0, 11, true);
        x.read(3, 10, false);
        // From 11 alone: all know behind 11 and none ahead of it.
        none(x, 4);
        check.says("32: of twelve GUESTS, the last GUEST and the last EVENING");
        DinnerRounds y = new DinnerRounds(12);
        check.due(y.question(0, 0), 0);
        check.due(y.question(0, 1), 11);
        check.due(y.question(0, 2), 12);
        for (int guest = 0; guest < 10; guest++) {
            y.read(guest, 11, false);
        }
        y.read(10, 10, false);
        y.read(11, 10, false);
        // With 10 or with 11 ahead of evening 11: the first of the two is asked for.
        check.due(y.begun(0, 0, NONE), 2);
        check.due(y.question(0, 0), 10);
        check.due(y.question(0, 1), 11);
        check.due(y.question(0, 2), 1);
        y.table(0, 11, Check.set(0, 10));
        check.due(y.begun(0, 0, NONE), 1);
        none(y, 1);
    }

    private static void questionNone() {
        check.says("Terms: none, if that is 0 (two BEGINNINGS, one, none)");
        DinnerRounds x = new DinnerRounds(4);
        x.read(1, 1, true);
        check.due(x.begun(0, 0, NONE), 2);
        check.due(x.question(0, 0), 1);
        check.due(x.question(0, 1), 0);
        check.due(x.question(0, 2), 1);
        x.image();
        x.read(1, 0, true);
        none(x, 1);
        x.read(1, 0, false);
        none(x, 0);
        x.back();
        check.due(x.question(0, 2), 1);
        check.says("Terms: none, though there are many BEGINNINGS, if they are all alike");
        DinnerRounds y = new DinnerRounds(4);
        y.table(0, 0, 15);
        y.read(0, 0, true);
        none(y, 4);
        check.says("32: BEGINNINGS as KNOWN now");
        DinnerRounds z = new DinnerRounds(4);
        z.days(7);
        z.read(1, 1, true);
        check.due(z.begun(0, 6, NONE), 48);
        check.due(z.question(0, 0), 1);
        check.due(z.question(0, 2), 1);
    }

    private static void none(DinnerRounds x, int beginnings) {
        check.due(x.begun(0, 999, NONE), beginnings);
        for (int what = -1; what <= 3; what++) {
            check.due(x.question(0, what), NONE);
        }
    }

    private static DinnerRounds busy() {
        DinnerRounds x = new DinnerRounds(6);
        x.guest(0, 3, 99);
        x.quarrel(0, 5, true);
        Check.rule(x, "bar quarrels>0;cost again*7+age;");
        x.by(0, 0);
        x.table(0, 0, 3);
        x.table(0, 11, 48);
        x.table(1, NONE, 63);
        x.complete(2, 2, 1, 20000);
        x.days(3);
        x.read(1, 1, true);
        return x;
    }

    private static void unlike(DinnerRounds x) {
        x.guest(0, 1, 1);
        x.quarrel(0, 5, false);
        x.quarrel(1, 2, true);
        x.by(0, NONE);
        x.clear(0, 0);
        x.table(0, 0, 12);
        x.change(0, 11, 4, 0);
        x.copy(0, 1);
        x.part(2, 20000);
        x.days(99);
        x.read(0, 0, false);
        x.sit(0, 3, 5);
    }

    private static void images() {
        check.says("33, 34: THE IMAGE is as all is now: the clock; all is as at THE IMAGE again (it stays): the clock");
        DinnerRounds x = busy();
        check.due(x.image(), 3);
        for (int i = 0; i < 3; i++) {
            unlike(x);
            check.due(x.about(0), 102);
            check.due(x.back(), 3);
        }
        check.due("behind back: " + Look.apart(Look.club(busy()), Look.club(x)),
            Look.club(busy()).equals(Look.club(x)), true);
        check.says("34: back without a change between, and twice");
        DinnerRounds y = busy();
        check.due(y.image(), 3);
        check.due(y.back(), 3);
        check.due(y.back(), 3);
        check.due("behind back: " + Look.apart(Look.club(busy()), Look.club(y)),
            Look.club(busy()).equals(Look.club(y)), true);
        check.says("33: a later IMAGE takes the place of the earlier one");
        DinnerRounds z = busy();
        z.image();
        z.days(1);
        check.due(z.image(), 4);
        z.days(1);
        check.due(z.back(), 4);
        check.says("34: TRIES are as at THE IMAGE, ahead of any too");
        DinnerRounds w = new DinnerRounds(4);
        w.complete(0, 4, 1, 1);
        check.due(w.tries(), 1);
        check.due(w.back(), 0);
        check.due(w.tries(), NONE);
        w.complete(0, 4, 2, 2);
        w.image();
        w.part(0, 1);
        check.due(w.tries(), 1);
        w.back();
        check.due(w.tries(), 2);
        check.due(w.about(10), 2);
    }

    private static void imageOfRules() {
        check.says("Terms: RULES told behind it are gone behind going back (none, some, all four)");
        for (int kept = 0; kept <= 4; kept++) {
            DinnerRounds x = new DinnerRounds(4);
            for (int i = 0; i < 4; i++) {
                if (i == kept) {
                    x.image();
                }
                check.due(Check.rule(x, "cost " + (10 + i) + ";"), i);
            }
            if (kept == 4) {
                x.image();
            }
            x.by(0, 3);
            x.back();
            check.due(x.about(2), kept);
            check.due(x.about(20), NONE);
            check.due(x.by(0, kept), false);
            check.due(x.by(0, kept - 1), true);
            check.due(x.judged(0, 3, 1), kept == 0 ? 0 : 9 + kept);
            for (int i = kept; i < 4; i++) {
                check.due(Check.rule(x, "cost " + (20 + i) + ";"), i);
            }
            check.due(Check.rule(x, "cost 1;"), NONE);
            for (int i = 0; i < 4; i++) {
                x.by(1, i);
                check.due(x.judged(1, 3, 1), i < kept ? 10 + i : 20 + i);
            }
            x.back();
            check.due(x.about(2), kept);
        }
        check.says("Terms: a text with a FAULT leaves the RULES of THE IMAGE and of now alone");
        DinnerRounds x = new DinnerRounds(4);
        Check.rule(x, "cost 5;");
        x.by(0, 0);
        x.image();
        check.due(Check.rule(x, "cost 6;cost"), NONE);
        check.due(x.judged(0, 3, 1), 5);
        x.back();
        check.due(x.judged(0, 3, 1), 5);
    }

    private static void imageLeavesTape() {
        check.says("Terms: AN IMAGE: all as it is, but the tape and the latest FAULT");
        DinnerRounds x = new DinnerRounds(4);
        check.due(x.fault(0), NONE);
        Check.tell(x, "cost 10000;");
        x.back();
        check.due(x.about(4), 11);
        check.due(x.rule(), NONE);
        x.back();
        check.due(x.fault(0), 2);
        check.due(x.fault(1), 5);
        check.due(x.about(4), 0);
        Check.tell(x, "cost 8;");
        x.image();
        check.due(x.rule(), 0);
        x.back();
        // The tape was read behind the image: it is empty still, and its text was without a fault.
        check.due(x.about(4), 0);
        check.due(x.fault(0), 0);
        check.due(x.fault(1), NONE);
        check.due(x.about(2), 0);
    }

    private static void aboutRanges() {
        check.says("35: 0 .. 5, 10 + plan, 20 + plan, 30 + plan, 40 + guest, 60 + guest; NONE for others");
        for (int n = 4; n <= 12; n += 4) {
            DinnerRounds x = new DinnerRounds(n);
            x.days(9);
            Check.rule(x, "");
            Check.rule(x, "");
            x.read(0, 0, true);
            x.feed(0, 0, 0, 0, 0);
            x.quarrel(0, n - 1, true);
            for (int plan = 0; plan < 3; plan++) {
                x.by(plan, plan == 2 ? NONE : plan);
                for (int i = 0; i <= plan; i++) {
                    x.table(plan, 0, 3 << 2 * i);
                    x.table(plan, 11 - i, 3);
                    x.table(plan, NONE, 3);
                }
            }
            for (int guest = 0; guest < n; guest++) {
                x.guest(guest, guest % 4, 50 + guest);
            }
            for (int what = -3; what <= 80; what++) {
                check.due(x.about(what), about(what, n));
            }
            for (int what : new int[] {LEAST, LEAST + 40, MOST - 40, MOST, 100, 1000}) {
                check.due(x.about(what), NONE);
            }
        }
    }

    private static int about(int what, int n) {
        int[] club = {9, n, 2, 1, 20, 1};
        // Of plan 2 the third table of evening 0 has no room where there are four guests.
        int[][] plans = {{3, 6, n == 4 ? 8 : 9}, {0, 1, NONE}, {2, 3, 4}};
        if (what >= 0 && what <= 5) return club[what];
        if (what >= 10 && what < 40 && what % 10 < 3) return plans[what / 10 - 1][what % 10];
        if (what >= 40 && what < 40 + n) return (what - 40) % 4;
        if (what >= 60 && what < 60 + n) return what - 10;
        return NONE;
    }
}
