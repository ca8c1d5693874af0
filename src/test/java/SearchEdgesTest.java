/** Promises 17 to 25, each sentence that names an edge: at it, and at the first value on either side of it. */
public final class SearchEdgesTest {
    private static final int NONE = DinnerRounds.NONE;
    private static final int TOO_FEW = -2;
    private static final int NO_EVENING = -10000000;
    private static final int LEAST = Integer.MIN_VALUE;
    private static final int MOST = Integer.MAX_VALUE;
    private static final Check check = new Check("SearchEdgesTest");

    public static void main(String[] args) {
        completeLimits();
        completeTries();
        lackingPairs();
        setsOfAPair();
        fewAreLeft();
        fullPlans();
        barredSets();
        partLimits();
        partTries();
        partEvenings();
        partFull();
        triesTold();
        renaming();
        likeness();
        cheapestLimits();
        cheapestOfLikeOnes();
        cheapestBarred();
        sitting();
        sittingBeyondSixty();
        changing();
        bestLimits();
        bestChanges();
        check.close();
    }

    private static void rows(DinnerRounds x, int plan, int[][] due) {
        check.due(x.about(10 + plan), due.length);
        for (int i = 0; i < due.length; i++) {
            check.due(x.at(plan, i, 0), due[i][0]);
            check.due(x.at(plan, i, 1), due[i][1]);
        }
    }

    private static void completeLimits() {
        check.says("17: K (2 .. 6); NONE for others");
        int[][] sizes = {{1, NONE}, {2, 15}, {3, 10}, {5, NONE}, {6, 2}, {7, NONE}, {0, NONE}, {-1, NONE},
            {LEAST, NONE}, {MOST, NONE}};
        for (int[] r : sizes) {
            // Each pair twice at tables of three or six; once at tables of two.
            DinnerRounds x = new DinnerRounds(6);
            check.due(x.complete(0, r[0], r[0] == 2 ? 1 : 2, 20000), r[1]);
            check.due(x.about(10), Math.max(0, r[1]));
        }
        check.says("17: L (1 .. 9); NONE for others");
        int[][] times = {{0, NONE}, {1, 1}, {2, 2}, {8, 8}, {9, 9}, {10, NONE}, {-1, NONE}, {LEAST, NONE},
            {MOST, NONE}};
        for (int[] r : times) {
            DinnerRounds x = new DinnerRounds(6);
            check.due(x.complete(0, 6, r[0], 20000), r[1]);
            check.due(x.about(10), Math.max(0, r[1]));
        }
        check.says("17: tries (1 .. 20000); NONE for others");
        int[][] tries = {{0, NONE}, {1, 1}, {2, 1}, {19999, 1}, {20000, 1}, {20001, NONE}, {-1, NONE}, {LEAST, NONE},
            {MOST, NONE}};
        for (int[] r : tries) {
            DinnerRounds x = new DinnerRounds(6);
            check.due(x.complete(0, 6, 1, r[0]), r[1]);
            check.due(x.tries(), r[1]);
        }
        check.says("17: a PLAN; NONE for others");
        int[][] plans = {{-1, NONE}, {0, 1}, {1, 1}, {2, 1}, {3, NONE}, {LEAST, NONE}, {MOST, NONE}};
        DinnerRounds x = new DinnerRounds(6);
        for (int[] r : plans) {
            check.due(x.complete(r[0], 6, 1, 1), r[1]);
        }
    }

    private static void completeTries() {
        check.says("17: -2: TRIES were too few (nothing is done then), by one and by more");
        for (int tries = 1; tries <= 7; tries++) {
            // Four at tables of three, each pair twice: 7, 7 again to no end, then 11, 13 and 14.
            DinnerRounds x = new DinnerRounds(4);
            x.table(0, 5, 3);
            x.clear(0, 0);
            boolean enough = tries >= 5;
            check.due(x.complete(0, 3, 2, tries), enough ? 4 : TOO_FEW);
            check.due(x.tries(), enough ? 5 : tries);
            check.due(x.about(10), enough ? 4 : 0);
            check.due(x.miss(0, 2), enough ? 0 : 12);
        }
        check.says("17: NONE: it can't be, as the last TRY told is one that is taken away");
        for (int tries = 1; tries <= 4; tries++) {
            // Four at tables of three, each pair once: 7, then 11, and no third.
            DinnerRounds x = new DinnerRounds(4);
            check.due(x.complete(0, 3, 1, tries), tries < 2 ? TOO_FEW : NONE);
            check.due(x.tries(), Math.min(tries, 2));
            check.due(x.about(10), 0);
            check.due(x.miss(0, 0), 0);
        }
        check.says("17: of a PLAN with TABLES these stay, with their EVENINGS, and those that came go");
        DinnerRounds x = new DinnerRounds(4);
        x.table(0, 7, 3);
        x.table(0, NONE, 12);
        check.due(x.complete(0, 2, 1, 3), TOO_FEW);
        rows(x, 0, new int[][] {{3, 7}, {12, NONE}});
        check.due(x.complete(0, 2, 1, 4), 4);
        rows(x, 0, new int[][] {{3, 7}, {12, NONE}, {5, NONE}, {9, NONE}, {6, NONE}, {10, NONE}});
        check.says("17: 20000 TRIES can be too few");
        x = new DinnerRounds(12);
        check.due(x.complete(0, 6, 5, 20000), TOO_FEW);
        check.due(x.tries(), 20000);
        check.due(x.about(10), 0);
        check.due(x.miss(0, 0), 0);
    }

    private static void lackingPairs() {
        check.says("Terms: as long as there is a pair that MEETs less than L (none: nothing comes)");
        DinnerRounds x = new DinnerRounds(4);
        for (int i = 0; i < 3; i++) {
            x.table(0, NONE, 15);
        }
        int[][] times = {{1, 0}, {2, 0}, {3, 0}, {4, 1}};
        for (int[] r : times) {
            check.due(x.complete(0, 4, r[0], 1), r[1]);
            check.due(x.tries(), r[1]);
        }
        check.due(x.about(10), 4);
        check.due(x.complete(0, 6, 4, 1), 0);
        check.due(x.complete(0, 6, 5, 1), NONE);
        check.due(x.tries(), 0);
        check.says("Terms: a SET of which no pair MEETs L times or more (L - 1, L, L + 1)");
        for (int met = 0; met <= 3; met++) {
            // 2 and 3 have met so often; each pair is to meet twice at the table of all four.
            x = new DinnerRounds(4);
            for (int i = 0; i < met; i++) {
                x.table(0, NONE, 12);
            }
            check.due(x.complete(0, 4, 2, 20000), met == 0 ? 2 : NONE);
            check.due(x.tries(), met == 0 ? 2 : met == 1 ? 1 : 0);
            check.due(x.about(10), met == 0 ? 2 : met);
        }
        check.says("Terms: the first one (by its lower GUEST, then the other), by rising numbers the first");
        x = new DinnerRounds(4);
        x.table(0, NONE, 3);
        x.table(0, NONE, 9);
        check.due(x.complete(0, 2, 1, 20000), 4);
        rows(x, 0, new int[][] {{3, NONE}, {9, NONE}, {5, NONE}, {6, NONE}, {10, NONE}, {12, NONE}});
        check.says("Terms: K that are more than there are GUESTS, as many, and fewer");
        int[][] sizes = {{3, 7}, {4, 15}, {5, NONE}, {6, NONE}};
        for (int[] r : sizes) {
            x = new DinnerRounds(4);
            check.due(x.complete(0, r[0], 2, 20000), r[0] == 3 ? 4 : r[0] == 4 ? 2 : NONE);
            check.due(x.at(0, 0, 0), r[1]);
        }
    }

    private static void fewAreLeft() {
        check.says("Terms: a SET of K with both: as many as are left, one fewer, one more");
        for (int k = 2; k <= 6; k++) {
            // 0 has met all the others once; of 1 .. 4 no pair has met.
            DinnerRounds x = new DinnerRounds(5);
            for (int guest = 1; guest < 5; guest++) {
                x.table(0, NONE, 1 | 1 << guest);
            }
            int[] came = {6, NONE, 1, NONE, NONE};
            int[] tried = {6, 2, 1, 0, 0};
            check.due(x.complete(0, k, 1, 20000), came[k - 2]);
            check.due(x.tries(), tried[k - 2]);
            check.due(x.at(0, 4, 0), k == 2 ? 6 : k == 4 ? 30 : NONE);
        }
        check.says("Terms: no pair lacks, of twelve GUESTS");
        DinnerRounds x = new DinnerRounds(12);
        for (int set : new int[] {0x03f, 0xfc0, 0x1c7, 0xe07, 0x1f8, 0xe38}) {
            x.table(0, NONE, set);
        }
        check.due(x.complete(0, 2, 1, 1), 0);
        check.due(x.tries(), 0);
        check.due(x.clear(0, 5), true);
        check.due(x.complete(0, 2, 1, 8), TOO_FEW);
        check.due(x.complete(0, 2, 1, 9), 9);
        check.due(x.at(0, 5, 0), Check.set(3, 9));
        check.due(x.at(0, 13, 0), Check.set(5, 11));
    }

    private static void setsOfAPair() {
        check.says("Terms: a SET of which no pair MEETs L times or more, nor BARRED, whoever of it the two are");
        // For 0 and 1 there are 15, 23 and 27; no more than one can be put, so that those that may be are tried.
        int[][] pairs = {{0, 2, 1}, {0, 3, 1}, {0, 4, 1}, {1, 2, 1}, {1, 3, 1}, {1, 4, 1}, {2, 3, 2}, {2, 4, 2},
            {3, 4, 2}};
        for (int[] r : pairs) {
            DinnerRounds x = new DinnerRounds(5);
            x.table(0, NONE, Check.set(r[0], r[1]));
            check.due(x.complete(0, 4, 1, 20000), NONE);
            check.due(x.tries(), r[2]);
            Check.rule(x, "bar quarrels>0;");
            x.by(1, 0);
            x.quarrel(r[0], r[1], true);
            check.due(x.complete(1, 4, 1, 20000), NONE);
            check.due(x.tries(), r[2]);
        }
        check.says("Terms: by rising numbers the first (that may be put)");
        // The ages are such that a table's is the number of its set.
        int[] barred = {0, 7, 11, 19, 35, 67};
        int[] firstSets = {7, 11, 19, 35, 67, NONE};
        DinnerRounds x = new DinnerRounds(7);
        for (int guest = 0; guest < 7; guest++) {
            x.guest(guest, 0, 1 << guest);
        }
        x.image();
        StringBuilder text = new StringBuilder("bar age=0");
        for (int i = 0; i < barred.length; i++) {
            text.append(" or age=").append(barred[i]);
            Check.rule(x, text + ";");
            x.by(0, 0);
            check.due(x.complete(0, 3, 1, 20000), i < 5 ? 7 : NONE);
            check.due(x.tries(), i < 5 ? 7 : 0);
            check.due(x.at(0, 0, 0), firstSets[i]);
            if (i == 1) {
                rows(x, 0, new int[][] {{11, NONE}, {21, NONE}, {97, NONE}, {38, NONE}, {82, NONE}, {76, NONE},
                    {56, NONE}});
            }
            x.back();
        }
    }

    private static void fullPlans() {
        check.says("Terms: or 60 TABLES are there (59, 60 and 61 would be)");
        for (int met = 3; met <= 5; met++) {
            // Six by two, each pair four times, are 60: with a pair that met once more there would be 61.
            DinnerRounds x = new DinnerRounds(6);
            for (int i = 0; i < met; i++) {
                x.table(0, NONE, 48);
            }
            check.due(x.complete(0, 2, 4, 20000), met == 3 ? 57 : met == 4 ? 56 : NONE);
            check.due(x.tries(), met == 3 ? 57 : met == 4 ? 56 : 55);
            check.due(x.about(10), met == 5 ? 5 : 60);
        }
        DinnerRounds x = new DinnerRounds(6);
        check.due(x.complete(0, 2, 4, 59), TOO_FEW);
        check.due(x.complete(0, 2, 4, 60), 60);
        check.due(x.complete(0, 2, 4, 1), 0);
        check.due(x.complete(0, 2, 5, 1), NONE);
        check.due(x.tries(), 0);
        check.due(x.clear(0, 59), true);
        check.due(x.complete(0, 2, 4, 1), 1);
        check.due(x.about(10), 60);
        check.due(x.complete(1, 2, 5, 60), NONE);
        check.due(x.tries(), 60);
        check.due(x.complete(1, 2, 5, 59), TOO_FEW);
        check.due(x.about(11), 0);
    }

    private static void barredSets() {
        check.says("Terms: that isn't BARRED by THE RULE (as all is then)");
        DinnerRounds x = new DinnerRounds(4);
        Check.rule(x, "bar again>=1;");
        Check.rule(x, "bar again>1;");
        Check.rule(x, "bar size=2;");
        int[][] rows = {{NONE, 3, 3}, {0, NONE, 1}, {1, NONE, 2}, {2, 3, 3}};
        for (int[] r : rows) {
            x.by(0, r[0]);
            x.image();
            check.due(x.complete(0, 4, 3, 20000), r[1]);
            check.due(x.tries(), r[2]);
            x.back();
        }
        x.by(0, 2);
        check.due(x.complete(0, 2, 1, 20000), NONE);
        check.due(x.tries(), 0);
        // It is THE RULE of that PLAN alone.
        check.due(x.complete(1, 2, 1, 20000), 6);
    }

    private static void partLimits() {
        check.says("18: tries (1 .. 20000); NONE for others");
        int[][] tries = {{0, NONE}, {1, 1}, {2, 1}, {19999, 1}, {20000, 1}, {20001, NONE}, {-1, NONE}, {LEAST, NONE},
            {MOST, NONE}};
        for (int[] r : tries) {
            DinnerRounds x = new DinnerRounds(4);
            x.table(0, NONE, 15);
            check.due(x.part(0, r[0]), r[1]);
            check.due(x.tries(), r[1]);
            check.due(x.at(0, 0, 1), r[1] == 1 ? 0 : NONE);
        }
        check.says("18: a PLAN; NONE for others");
        int[][] plans = {{-1, NONE}, {0, 0}, {2, 0}, {3, NONE}, {LEAST, NONE}, {MOST, NONE}};
        DinnerRounds x = new DinnerRounds(4);
        for (int[] r : plans) {
            check.due(x.part(r[0], 1), r[1]);
        }
        check.says("Terms: without TABLES to place it is ended at once");
        check.due(x.part(0, 1), 0);
        check.due(x.tries(), 0);
        for (int evening = 0; evening < 12; evening++) {
            x.table(0, evening, 3);
        }
        check.due(x.part(0, 1), 0);
        check.due(x.tries(), 0);
        check.due(x.about(30), 12);
    }

    private static void partTries() {
        check.says("18: -2: TRIES were too few (nothing is done then), by one and by more");
        for (int tries = 1; tries <= 7; tries++) {
            DinnerRounds x = new DinnerRounds(4);
            x.complete(0, 2, 1, 20000);
            check.due(x.part(0, tries), tries < 6 ? TOO_FEW : 3);
            check.due(x.tries(), Math.min(tries, 6));
            check.due(x.about(30), tries < 6 ? 0 : 3);
            int[] placed = {0, 1, 2, 2, 1, 0};
            for (int i = 0; i < 6; i++) {
                check.due(x.at(0, i, 1), tries < 6 ? NONE : placed[i]);
            }
        }
        check.says("18: nothing is done then: TABLES that have an EVENING keep it, those without have none");
        for (int tries = 1; tries <= 4; tries++) {
            DinnerRounds x = new DinnerRounds(4);
            x.table(0, 7, 3);
            x.table(0, NONE, 3);
            x.table(0, 0, 12);
            x.table(0, NONE, 12);
            x.table(0, NONE, 5);
            x.table(0, NONE, 10);
            int[] first = {7, NONE, 0, NONE, NONE, NONE};
            int[] behind = {7, 1, 0, 1, 2, 2};
            check.due(x.part(0, tries), tries < 4 ? TOO_FEW : 2);
            for (int i = 0; i < 6; i++) {
                check.due(x.at(0, i, 1), tries < 4 ? first[i] : behind[i]);
            }
        }
        check.says("18: a TABLE that went isn't placed");
        DinnerRounds gone = new DinnerRounds(4);
        gone.table(0, NONE, 3);
        gone.table(0, NONE, 12);
        gone.clear(0, 1);
        check.due(gone.part(0, 20000), NONE);
        check.due(gone.tries(), 1);
        check.due(gone.about(30), 0);
        check.says("18: NONE: it can't be, as the last TRY told is one that goes back");
        for (int tries = 1; tries <= 6; tries++) {
            // 3 has no other beside it; 5 has 10, but then 3 is left over.
            DinnerRounds x = new DinnerRounds(4);
            x.table(0, NONE, 3);
            x.table(0, NONE, 5);
            x.table(0, NONE, 10);
            check.due(x.part(0, tries), tries < 4 ? TOO_FEW : NONE);
            check.due(x.tries(), Math.min(tries, 4));
            rows(x, 0, new int[][] {{3, NONE}, {5, NONE}, {10, NONE}});
        }
        check.says("18: 20000 TRIES can be too few");
        DinnerRounds x = new DinnerRounds(4);
        for (int i = 0; i < 13; i++) {
            x.table(0, NONE, 15);
        }
        check.due(x.part(0, 20000), TOO_FEW);
        check.due(x.tries(), 20000);
        check.due(x.about(30), 0);
    }

    private static void partEvenings() {
        check.says("Terms: the lowest EVENING without TABLES is begun");
        for (int free = 0; free < 12; free++) {
            DinnerRounds x = new DinnerRounds(4);
            for (int evening = 0; evening < 12; evening++) {
                if (evening != free) {
                    x.table(0, evening, 12);
                }
            }
            x.table(0, NONE, 15);
            check.due(x.part(0, 1), 1);
            check.due(x.at(0, 11, 1), free);
        }
        check.says("Terms: or no EVENING is left");
        DinnerRounds x = new DinnerRounds(4);
        for (int evening = 0; evening < 12; evening++) {
            x.table(0, evening, 12);
        }
        x.table(0, NONE, 15);
        check.due(x.part(0, 1), NONE);
        check.due(x.tries(), 0);
        check.says("18: how many EVENINGS were begun (12 at most)");
        x = new DinnerRounds(4);
        for (int i = 0; i < 12; i++) {
            x.table(0, NONE, 3);
            x.table(0, NONE, 12);
        }
        check.due(x.part(0, 24), 12);
        check.due(x.tries(), 24);
        check.due(x.about(30), 12);
        for (int i = 0; i < 24; i++) {
            check.due(x.at(0, i, 1), i / 2);
        }
    }

    private static void partFull() {
        check.says("Terms: each of which has each GUEST once (one who lacks, one who is there twice)");
        DinnerRounds x = new DinnerRounds(5);
        x.table(0, NONE, Check.set(0, 1));
        x.table(0, NONE, Check.set(2, 3));
        check.due(x.part(0, 20000), NONE);
        check.due(x.tries(), 2);
        x.table(0, NONE, Check.set(3, 4));
        check.due(x.part(0, 20000), NONE);
        x.clear(0, 2);
        x.clear(0, 1);
        x.table(0, NONE, Check.set(2, 3, 4));
        check.due(x.part(0, 20000), 1);
        check.says("Terms: an EVENING that has TABLES is not filled up");
        x = new DinnerRounds(4);
        x.table(0, 0, 3);
        x.table(0, NONE, 12);
        check.due(x.part(0, 20000), NONE);
        check.due(x.tries(), 0);
        x.table(0, NONE, 3);
        check.due(x.part(0, 20000), 1);
        rows(x, 0, new int[][] {{3, 0}, {12, 1}, {3, 1}});
        check.says("Terms: it ends as all TABLES are placed and the EVENING is full");
        x = new DinnerRounds(4);
        x.table(0, NONE, 3);
        x.table(0, NONE, 12);
        x.table(0, NONE, 3);
        check.due(x.part(0, 20000), NONE);
        rows(x, 0, new int[][] {{3, NONE}, {12, NONE}, {3, NONE}});
        x.table(0, NONE, 12);
        check.due(x.part(0, 4), 2);
        rows(x, 0, new int[][] {{3, 0}, {12, 0}, {3, 1}, {12, 1}});
        check.says("18: 60 TABLES are placed");
        x = new DinnerRounds(12);
        for (int evening = 0; evening < 10; evening++) {
            for (int i = 0; i < 6; i++) {
                x.table(0, NONE, 3 << 2 * i);
            }
        }
        check.due(x.part(0, 59), TOO_FEW);
        check.due(x.part(0, 60), 10);
        check.due(x.tries(), 60);
        check.due(x.about(30), 10);
        check.due(x.at(0, 59, 1), 9);
    }

    private static void triesTold() {
        check.says("19: NONE ahead of any; TRIES of the latest that wasn't for others");
        DinnerRounds x = new DinnerRounds(4);
        check.due(x.tries(), NONE);
        x.complete(0, 1, 1, 1);
        x.complete(0, 2, 1, 0);
        x.complete(3, 2, 1, 1);
        x.part(0, 0);
        x.part(3, 1);
        x.part(0, 20001);
        check.due(x.tries(), NONE);
        x.part(0, 1);
        check.due(x.tries(), 0);
        x.complete(0, 2, 1, 20000);
        check.due(x.tries(), 6);
        x.part(0, 20001);
        x.part(-1, 5);
        x.complete(0, 7, 1, 5);
        x.complete(0, 2, 10, 5);
        x.complete(0, 2, 1, 20001);
        check.due(x.tries(), 6);
        x.part(0, 3);
        check.due(x.tries(), 3);
        x.complete(0, 2, 1, 20000);
        check.due(x.tries(), 0);
    }

    private static void renaming() {
        check.says("20: NONE for others, and with more than 8 GUESTS");
        int[] orders = {24, 120, 720, 5040, 40320, NONE, NONE, NONE, NONE};
        for (int n = 4; n <= 12; n++) {
            DinnerRounds x = new DinnerRounds(n);
            check.due(x.renamed(0, NONE), orders[n - 4]);
            check.due(x.renamed(0, 0), n > 8 ? NONE : 0);
            check.due(x.renamed(0, n - 1), n > 8 ? NONE : 0);
            check.due(x.renamed(0, n), NONE);
            check.due(x.renamed(0, -2), NONE);
            check.due(x.renamed(-1, NONE), NONE);
            check.due(x.renamed(3, NONE), NONE);
            check.due(x.renamed(0, LEAST), NONE);
            check.due(x.renamed(MOST, 0), NONE);
        }
        check.says("20: how many (guest NONE); the lowest GUEST that a GUEST becomes by some");
        DinnerRounds x = new DinnerRounds(8);
        x.table(2, 3, Check.set(6, 7));
        x.table(2, NONE, Check.set(4, 5));
        check.due(x.renamed(2, NONE), 24 * 8);
        int[] lowest = {0, 0, 0, 0, 4, 4, 4, 4};
        for (int guest = 0; guest < 8; guest++) {
            check.due(x.renamed(2, guest), lowest[guest]);
        }
        check.says("Terms: its TABLES' SETS become just these (EVENINGS aside; as often each)");
        x.table(2, 4, Check.set(6, 7));
        check.due(x.renamed(2, NONE), 24 * 4);
        check.due(x.renamed(2, 6), 6);
        check.due(x.renamed(2, 7), 6);
        x.table(2, 5, Check.set(4, 5));
        check.due(x.renamed(2, NONE), 24 * 8);
        check.due(x.renamed(2, 6), 4);
        x.table(2, NONE, Check.set(0, 1, 2));
        check.due(x.renamed(2, NONE), 6 * 8);
        check.due(x.renamed(2, 3), 3);
        check.says("20: of the PLAN that is asked for, whatever was asked ahead of it");
        DinnerRounds z = new DinnerRounds(4);
        z.table(0, NONE, Check.set(2, 3));
        z.table(1, NONE, Check.set(1, 2));
        check.due(z.renamed(0, 3), 2);
        check.due(z.renamed(1, 3), 0);
        check.due(z.renamed(2, 3), 0);
        check.due(z.renamed(0, 3), 2);
        check.due(z.like(0, 1), 1);
        check.due(z.renamed(2, NONE), 24);
        check.due(z.renamed(1, 2), 1);
        check.says("20: of 60 TABLES");
        DinnerRounds y = new DinnerRounds(6);
        y.complete(0, 2, 4, 20000);
        check.due(y.renamed(0, NONE), 720);
        y.clear(0, 0);
        check.due(y.renamed(0, NONE), 48);
        check.due(y.renamed(0, 1), 0);
        check.due(y.renamed(0, 2), 2);
    }

    private static void likeness() {
        check.says("21: NONE for others, and with more than 8 GUESTS");
        for (int n = 4; n <= 12; n++) {
            DinnerRounds x = new DinnerRounds(n);
            check.due(x.like(0, 1), n > 8 ? NONE : 1);
            check.due(x.like(2, 0), n > 8 ? NONE : 1);
            check.due(x.like(-1, 0), NONE);
            check.due(x.like(0, -1), NONE);
            check.due(x.like(3, 0), NONE);
            check.due(x.like(0, 3), NONE);
            check.due(x.like(LEAST, 0), NONE);
            check.due(x.like(0, MOST), NONE);
        }
        check.says("21: whether two PLANS are LIKE (1, 0), by how many TABLES and as often each");
        DinnerRounds x = new DinnerRounds(8);
        x.table(0, 0, 3);
        check.due(x.like(0, 1), 0);
        check.due(x.like(1, 0), 0);
        x.table(1, NONE, 192);
        check.due(x.like(0, 1), 1);
        x.table(0, 1, 3);
        check.due(x.like(0, 1), 0);
        x.table(1, NONE, 48);
        check.due(x.like(0, 1), 0);
        check.due(x.like(1, 0), 0);
        x.clear(1, 1);
        x.table(1, 0, 192);
        check.due(x.like(0, 1), 1);
        x.table(0, NONE, 7);
        x.table(1, NONE, 56);
        check.due(x.like(0, 1), 0);
        x.clear(1, 2);
        x.table(1, NONE, 224);
        check.due(x.like(0, 1), 1);
        check.due(x.like(1, 0), 1);
    }

    private static void cheapestLimits() {
        check.says("22: K (2 .. 6) that goes into N; -10000000: there is none, and for others");
        for (int n = 4; n <= 12; n++) {
            DinnerRounds x = new DinnerRounds(n);
            for (int k = -1; k <= 13; k++) {
                boolean right = k >= 2 && k <= 6 && n % k == 0;
                check.due(x.cheapest(0, k, NONE), right ? 0 : NO_EVENING);
                check.due(x.cheapest(0, k, 0), right ? (1 << k) - 1 : NO_EVENING);
                check.due(x.cheapest(0, k, n - 1), right ? (1 << k) - 1 << n - k : NO_EVENING);
            }
        }
        check.says("22: its COST (guest NONE), the SET of a GUEST; -10000000 for others");
        DinnerRounds x = new DinnerRounds(6);
        int[][] guests = {{-2, NO_EVENING}, {-1, 0}, {0, 7}, {2, 7}, {3, 56}, {5, 56}, {6, NO_EVENING},
            {LEAST, NO_EVENING}, {MOST, NO_EVENING}};
        for (int[] r : guests) {
            check.due(x.cheapest(0, 3, r[0]), r[1]);
        }
        int[][] plans = {{-1, NO_EVENING}, {0, 0}, {2, 0}, {3, NO_EVENING}, {LEAST, NO_EVENING}, {MOST, NO_EVENING}};
        for (int[] r : plans) {
            check.due(x.cheapest(r[0], 3, NONE), r[1]);
        }
        check.due(x.cheapest(0, LEAST, NONE), NO_EVENING);
        check.due(x.cheapest(0, MOST, NONE), NO_EVENING);
        check.says("22: COSTS together, of six TABLES at 1000000 and below 0");
        DinnerRounds y = new DinnerRounds(12);
        Check.rule(y, "cost 1000*1000;");
        Check.rule(y, "cost 0-1000*1000;");
        y.by(0, 0);
        y.by(1, 1);
        check.due(y.cheapest(0, 2, NONE), 6000000);
        check.due(y.cheapest(1, 2, NONE), -6000000);
        check.due(y.cheapest(1, 6, NONE), -2000000);
    }

    private static void cheapestOfLikeOnes() {
        check.says("Terms: of like ones the first by the SET of GUEST 0, then of the lowest who isn't in it");
        DinnerRounds x = new DinnerRounds(6);
        Check.rule(x, "cost again;");
        x.by(0, 0);
        x.table(0, NONE, Check.set(0, 1));
        check.due(x.cheapest(0, 2, 0), Check.set(0, 2));
        check.due(x.cheapest(0, 2, 1), Check.set(1, 3));
        check.due(x.cheapest(0, 2, 5), Check.set(4, 5));
        x.table(0, NONE, Check.set(4, 5));
        check.due(x.cheapest(0, 2, NONE), 0);
        check.due(x.cheapest(0, 2, 0), Check.set(0, 2));
        check.due(x.cheapest(0, 2, 1), Check.set(1, 4));
        check.due(x.cheapest(0, 2, 3), Check.set(3, 5));
        check.says("Terms: COSTS together the least, though the SET of GUEST 0 alone costs more");
        DinnerRounds y = new DinnerRounds(4);
        Check.rule(y, "cost again*again;");
        y.by(0, 0);
        y.table(0, NONE, Check.set(0, 3));
        for (int i = 0; i < 2; i++) {
            y.table(0, NONE, Check.set(2, 3));
            y.table(0, NONE, Check.set(1, 3));
        }
        check.due(y.cheapest(0, 2, NONE), 1);
        check.due(y.cheapest(0, 2, 0), Check.set(0, 3));
        check.due(y.cheapest(0, 2, 1), Check.set(1, 2));
        y.table(0, NONE, Check.set(0, 3));
        check.due(y.cheapest(0, 2, NONE), 4);
        check.due(y.cheapest(0, 2, 0), Check.set(0, 1));
    }

    private static void cheapestBarred() {
        check.says("Terms: none BARRED by THE RULE (one evening is left, then none)");
        DinnerRounds x = new DinnerRounds(4);
        Check.rule(x, "bar quarrels>0;cost 1;");
        x.by(0, 0);
        int[][] quarrels = {{0, 1}, {1, 3}, {0, 3}};
        int[] sets = {5, 9, NO_EVENING};
        for (int i = 0; i < 3; i++) {
            x.quarrel(quarrels[i][0], quarrels[i][1], true);
            check.due(x.cheapest(0, 2, NONE), i < 2 ? 2 : NO_EVENING);
            check.due(x.cheapest(0, 2, 0), sets[i]);
            check.due(x.cheapest(0, 4, NONE), NO_EVENING);
            check.due(x.cheapest(1, 2, NONE), 0);
            check.due(x.cheapest(1, 4, 0), 15);
        }
        check.due(x.sit(0, 2, 0), NONE);
        check.due(x.about(10), 0);
    }

    private static void sitting() {
        check.says("23: an EVENING (0 .. 11); NONE for others");
        int[][] evenings = {{-2, NONE}, {-1, NONE}, {0, 2}, {1, 2}, {10, 2}, {11, 2}, {12, NONE}, {LEAST, NONE},
            {MOST, NONE}};
        DinnerRounds x = new DinnerRounds(4);
        for (int[] r : evenings) {
            check.due(x.sit(0, 2, r[0]), r[1]);
        }
        check.due(x.about(10), 8);
        check.due(x.about(30), 4);
        check.says("23: K (2 .. 6) that goes into N, a PLAN; NONE: there is none, others");
        DinnerRounds y = new DinnerRounds(6);
        int[][] sizes = {{1, NONE}, {2, 3}, {3, 2}, {4, NONE}, {5, NONE}, {6, 1}, {7, NONE}, {0, NONE}, {LEAST, NONE},
            {MOST, NONE}};
        for (int i = 0; i < sizes.length; i++) {
            check.due(y.sit(1, sizes[i][0], i), sizes[i][1]);
        }
        check.due(y.about(11), 6);
        check.due(y.sit(-1, 6, 11), NONE);
        check.due(y.sit(3, 6, 11), NONE);
        check.due(y.sit(2, 6, 11), 1);
        check.says("23: an EVENING that has no TABLES (one that has a few, one that had)");
        DinnerRounds z = new DinnerRounds(6);
        z.table(0, 3, 3);
        z.table(0, NONE, 12);
        check.due(z.sit(0, 6, 3), NONE);
        check.due(z.sit(0, 2, 3), NONE);
        check.due(z.sit(0, 6, 4), 1);
        check.due(z.sit(0, 6, 4), NONE);
        z.clear(0, 0);
        check.due(z.sit(0, 3, 3), 2);
        rows(z, 0, new int[][] {{12, NONE}, {63, 4}, {7, 3}, {56, 3}});
    }

    private static void sittingBeyondSixty() {
        check.says("23: NONE: or there would be more than 60");
        int[] sizes = {2, 3, 6};
        for (int k : sizes) {
            int come = 6 / k;
            for (int there = 60 - come - 1; there <= 60; there++) {
                DinnerRounds x = new DinnerRounds(6);
                x.complete(0, 2, 4, 20000);
                for (int i = 60; i > there; i--) {
                    x.clear(0, i - 1);
                }
                boolean fits = there + come <= 60;
                check.due(x.sit(0, k, 0), fits ? come : NONE);
                check.due(x.about(10), fits ? there + come : there);
                check.due(x.about(30), fits ? 1 : 0);
            }
        }
    }

    private static void changing() {
        check.says("24: false for others");
        int[][] others = {{-1, 0, 0, 2}, {3, 0, 0, 2}, {0, -1, 0, 2}, {0, 12, 0, 2}, {0, 0, -1, 2}, {0, 0, 6, 2},
            {0, 0, 0, -1}, {0, 0, 0, 6}, {0, 0, 0, 0}, {LEAST, 0, 0, 2}, {0, MOST, 0, 2}, {0, 0, LEAST, 2},
            {0, 0, 0, MOST}};
        DinnerRounds x = new DinnerRounds(6);
        x.table(0, 0, Check.set(0, 1));
        x.table(0, 0, Check.set(2, 5));
        x.table(0, 11, Check.set(0, 1));
        x.table(0, 11, Check.set(4, 5));
        x.table(0, NONE, Check.set(0, 1));
        x.table(0, NONE, Check.set(2, 3));
        for (int[] r : others) {
            check.due(x.change(r[0], r[1], r[2], r[3]), false);
        }
        check.says("24: or if they aren't at two TABLES of that EVENING");
        int[][] notThere = {{0, 0, 0, 1}, {0, 0, 0, 3}, {0, 0, 3, 0}, {0, 0, 3, 4}, {0, 1, 0, 2}, {0, 11, 0, 2},
            {1, 0, 0, 2}};
        for (int[] r : notThere) {
            check.due(x.change(r[0], r[1], r[2], r[3]), false);
        }
        rows(x, 0, new int[][] {{3, 0}, {36, 0}, {3, 11}, {48, 11}, {3, NONE}, {12, NONE}});
        check.says("24: a CHANGE: true (the first and the last EVENING, the first and the last GUEST)");
        check.due(x.change(0, 0, 0, 5), true);
        check.due(x.change(0, 11, 5, 0), true);
        rows(x, 0, new int[][] {{34, 0}, {5, 0}, {34, 11}, {17, 11}, {3, NONE}, {12, NONE}});
        check.due(x.meet(0, 1, 5), 2);
        check.due(x.meet(0, 0, 1), 1);
        check.due(x.meet(0, 0, 2), 1);
        check.due(x.meet(0, 0, 4), 1);
        check.due(x.meet(0, 4, 5), 0);
    }

    private static void bestLimits() {
        check.says("25: BEST CHANGE by L (0 .. 60): 0, 1 the GUESTS, 2 MISS behind it; NONE: none, and for others");
        DinnerRounds x = new DinnerRounds(4);
        for (int evening = 0; evening < 2; evening++) {
            x.table(0, 11 * evening, 3);
            x.table(0, 11 * evening, 12);
        }
        int[][] rows = {{0, 0, 1, 0, 0}, {0, 0, 1, 1, 2}, {0, 0, 1, 2, 2}, {0, 11, 1, 0, 0}, {0, 11, 1, 1, 2},
            {0, 11, 1, 2, 2}, {0, 0, 1, -1, NONE}, {0, 0, 1, 3, NONE}, {0, 0, 1, LEAST, NONE}, {0, 0, 1, MOST, NONE},
            {0, -1, 1, 0, NONE}, {0, 1, 1, 0, NONE}, {0, 10, 1, 0, NONE}, {0, 12, 1, 0, NONE}, {0, LEAST, 1, 0, NONE},
            {0, MOST, 1, 0, NONE}, {-1, 0, 1, 0, NONE}, {1, 0, 1, 0, NONE}, {3, 0, 1, 0, NONE}, {LEAST, 0, 1, 0, NONE},
            {MOST, 0, 1, 0, NONE}, {0, 0, -1, 0, NONE}, {0, 0, 0, 0, NONE}, {0, 0, 2, 0, NONE}, {0, 0, 60, 2, NONE},
            {0, 0, 61, 0, NONE}, {0, 0, LEAST, 0, NONE}, {0, 0, MOST, 0, NONE}};
        for (int[] r : rows) {
            check.due(x.best(r[0], r[1], r[2], r[3]), r[4]);
        }
        rows(x, 0, new int[][] {{3, 0}, {12, 0}, {3, 11}, {12, 11}});
    }

    private static void bestChanges() {
        check.says("Terms: if it is below what it is (a like MISS is none)");
        // 0 and 1 meet 59 times: by 58 a change takes one too many away, by 59 it takes one that is due.
        DinnerRounds x = new DinnerRounds(4);
        for (int i = 0; i < 58; i++) {
            x.table(0, NONE, 3);
        }
        x.table(0, 0, 3);
        x.table(0, 0, 12);
        int[][] rows = {{57, 286, 284}, {58, 290, 288}, {59, 294, NONE}, {60, 300, NONE}};
        for (int[] r : rows) {
            check.due(x.miss(0, r[0]), r[1]);
            check.due(x.best(0, 0, r[0], 2), r[2]);
            check.due(x.best(0, 0, r[0], 0), r[2] == NONE ? NONE : 0);
            check.due(x.best(0, 0, r[0], 1), r[2] == NONE ? NONE : 2);
        }
        check.says("Terms: of like ones the first (the lower GUEST, then the other)");
        DinnerRounds y = new DinnerRounds(6);
        y.table(0, 4, Check.set(4, 5));
        y.table(0, 4, Check.set(2, 3));
        y.table(0, 4, Check.set(0, 1));
        y.table(0, NONE, Check.set(2, 3));
        // Whoever of 2 and 3 changes, one MEET less is too many there; 0 is the lowest to change with.
        check.due(y.miss(0, 1), 13);
        check.due(y.best(0, 4, 1, 2), 11);
        check.due(y.best(0, 4, 1, 0), 0);
        check.due(y.best(0, 4, 1, 1), 2);
        check.says("25: any two GUESTS may be the best to change: neighbours, the first and the last");
        int[][] two = {{0, 1}, {2, 3}, {4, 5}, {0, 5}, {1, 4}};
        for (int[] r : two) {
            DinnerRounds z = new DinnerRounds(6);
            int one = 1 << r[0];
            int other = 1 << r[1];
            int left = 63 & ~one & ~other;
            int half = left & -left;
            half |= left & ~half & -(left & ~half);
            z.table(0, 0, one | half);
            z.table(0, 0, other | left & ~half);
            // Each has met all of that table too often, and none of the other one.
            for (int guest = 0; guest < 6; guest++) {
                if ((left >> guest & 1) == 1) {
                    z.table(0, NONE, 1 << guest | ((half >> guest & 1) == 1 ? one : other));
                }
            }
            check.due(z.best(0, 0, 1, 0), r[0]);
            check.due(z.best(0, 0, 1, 1), r[1]);
            check.due(z.best(0, 0, 1, 2), z.miss(0, 1) - 8);
        }
        check.says("24, 25: behind the BEST CHANGE MISS is as told");
        check.due(y.change(0, 4, 0, 2), true);
        check.due(y.miss(0, 1), 11);
        check.due(y.best(0, 4, 1, 2), NONE);
    }
}
