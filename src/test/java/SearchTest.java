/** Promises 17 to 21: plans completed and parted by counted tries, renamed and compared. */
public final class SearchTest {
    private static final int NONE = DinnerRounds.NONE;
    private static final Check check = new Check("SearchTest");

    public static void main(String[] args) {
        pairsOfFour();
        goesBack();
        ruled();
        fullPlans();
        completeOthers();
        parting();
        partingGoesBack();
        partingAmongOthers();
        partOthers();
        renaming();
        likeness();
        check.close();
    }

    private static void sets(DinnerRounds x, int plan, int... due) {
        check.due("tables", x.about(10 + plan), due.length);
        for (int i = 0; i < due.length; i++) {
            check.due("set of table " + i, x.at(plan, i, 0), due[i]);
        }
    }

    private static void evenings(DinnerRounds x, int plan, int... due) {
        check.due("tables", x.about(10 + plan), due.length);
        for (int i = 0; i < due.length; i++) {
            check.due("evening of table " + i, x.at(plan, i, 1), due[i]);
        }
    }

    private static void pairsOfFour() {
        DinnerRounds x = new DinnerRounds(4);
        check.due("ahead of any", x.tries(), NONE);
        check.due("complete", x.complete(0, 2, 1, 6), 6);
        check.due("tries", x.tries(), 6);
        sets(x, 0, 3, 5, 9, 6, 10, 12);
        evenings(x, 0, NONE, NONE, NONE, NONE, NONE, NONE);
        check.due("nothing lacks", x.complete(0, 2, 1, 1), 0);
        check.due("no tries", x.tries(), 0);
        check.due("another plan", x.complete(1, 2, 9, 20000), 54);
        check.due("tries", x.tries(), 54);
    }

    private static void goesBack() {
        DinnerRounds x = new DinnerRounds(4);
        check.due("it can't be", x.complete(0, 3, 1, 20000), NONE);
        check.due("two tries", x.tries(), 2);
        check.due("nothing is left", x.about(10), 0);
        check.due("it can't be by two", x.complete(0, 3, 1, 2), NONE);
        check.due("too few", x.complete(0, 3, 1, 1), -2);
        check.due("one try", x.tries(), 1);
        check.due("too few", x.complete(0, 3, 2, 4), -2);
        check.due("four tries", x.tries(), 4);
        check.due("nothing is done", x.about(10) + x.miss(0, 0), 0);
        check.due("five are enough", x.complete(0, 3, 2, 5), 4);
        check.due("five tries", x.tries(), 5);
        sets(x, 0, 7, 11, 13, 14);
        x = new DinnerRounds(4);
        x.table(0, 3, 15);
        check.due("with a table ahead", x.complete(0, 3, 2, 20000), NONE);
        check.due("two tries", x.tries(), 2);
        sets(x, 0, 15);
        check.due("by one more", x.complete(0, 3, 3, 20000), 4);
        sets(x, 0, 15, 7, 11, 13, 14);
        evenings(x, 0, 3, NONE, NONE, NONE, NONE);
        x = new DinnerRounds(4);
        x.table(0, NONE, 12);
        check.due("others of the set have met", x.complete(0, 4, 1, 20000), NONE);
        check.due("no try", x.tries(), 0);
        x = new DinnerRounds(6);
        x.table(0, NONE, 12);
        x.table(0, NONE, 36);
        x.table(0, NONE, 24);
        check.due("too few, by one", x.complete(0, 4, 1, 1), -2);
        check.due("then it can't be", x.complete(0, 4, 1, 20000), NONE);
        check.due("the sets with 0, 1 and two who haven't met", x.tries(), 3);
        x = new DinnerRounds(4);
        check.due("tables for more than there are", x.complete(0, 6, 1, 20000), NONE);
        check.due("no try", x.tries(), 0);
        check.due("all at one", x.complete(0, 4, 2, 20000), 2);
        sets(x, 0, 15, 15);
    }

    private static void ruled() {
        DinnerRounds x = new DinnerRounds(4);
        Check.rule(x, "bar quarrels>0;");
        Check.rule(x, "bar again>0;");
        x.by(0, 0);
        x.quarrel(2, 3, true);
        check.due("the last pair may not", x.complete(0, 2, 1, 20000), NONE);
        check.due("five tries", x.tries(), 5);
        check.due("just five", x.complete(0, 2, 1, 5), NONE);
        x.quarrel(0, 1, true);
        check.due("the first pair may not", x.complete(0, 2, 1, 20000), NONE);
        check.due("no try", x.tries(), 0);
        x.by(0, 1);
        check.due("as all is then", x.complete(0, 3, 2, 20000), NONE);
        check.due("two tries", x.tries(), 2);
        check.due("pairs meet once", x.complete(0, 2, 1, 20000), 6);
        check.due("and never again", x.complete(0, 2, 2, 20000), NONE);
    }

    private static void fullPlans() {
        DinnerRounds x = new DinnerRounds(12);
        check.due("66 pairs", x.complete(0, 2, 1, 20000), NONE);
        check.due("60 tries", x.tries(), 60);
        check.due("too few", x.complete(0, 2, 1, 59), -2);
        for (int i = 0; i < 60; i++) {
            x.table(1, NONE, 3);
        }
        check.due("60 are there", x.complete(1, 3, 1, 20000), NONE);
        check.due("no try", x.tries(), 0);
        x = new DinnerRounds(9);
        check.due("nine by three", x.complete(0, 3, 1, 20000), 12);
        check.due("each pair once", x.miss(0, 1), 0);
        check.due("four evenings", x.part(0, 20000), 4);
        check.due("evenings", x.about(30), 4);
    }

    private static void completeOthers() {
        DinnerRounds x = new DinnerRounds(4);
        x.complete(0, 2, 1, 20000);
        int[][] rows = {{3, 2, 1, 5}, {-1, 2, 1, 5}, {1, 1, 1, 5}, {1, 7, 1, 5}, {1, 2, 0, 5}, {1, 2, 10, 5},
            {1, 2, 1, 0}, {1, 2, 1, 20001}, {1, 2, 1, -1}};
        for (int[] r : rows) {
            check.due("others", x.complete(r[0], r[1], r[2], r[3]), NONE);
            check.due("tries stay", x.tries(), 6);
            check.due("nothing came", x.about(11), 0);
        }
    }

    private static void parting() {
        DinnerRounds x = new DinnerRounds(4);
        check.due("nothing to place", x.part(0, 1), 0);
        check.due("no try", x.tries(), 0);
        x.complete(0, 2, 1, 20000);
        check.due("too few", x.part(0, 5), -2);
        check.due("five tries", x.tries(), 5);
        evenings(x, 0, NONE, NONE, NONE, NONE, NONE, NONE);
        check.due("three evenings", x.part(0, 6), 3);
        check.due("six tries", x.tries(), 6);
        evenings(x, 0, 0, 1, 2, 2, 1, 0);
        check.due("all are placed", x.part(0, 6), 0);
        check.due("no try", x.tries(), 0);
        x = new DinnerRounds(6);
        x.table(0, NONE, 63);
        check.due("one table is an evening", x.part(0, 1), 1);
        x = new DinnerRounds(4);
        x.table(0, NONE, 12);
        x.table(0, NONE, 3);
        x.table(0, NONE, 3);
        x.table(0, NONE, 12);
        check.due("like tables", x.part(0, 20000), 2);
        check.due("four tries", x.tries(), 4);
        evenings(x, 0, 0, 0, 1, 1);
    }

    private static void partingGoesBack() {
        DinnerRounds x = new DinnerRounds(4);
        x.table(0, NONE, 3);
        x.table(0, NONE, 5);
        x.table(0, NONE, 10);
        check.due("it can't be", x.part(0, 20000), NONE);
        check.due("four tries", x.tries(), 4);
        evenings(x, 0, NONE, NONE, NONE);
        x.table(0, NONE, 12);
        check.due("it can", x.part(0, 20000), 2);
        check.due("four tries", x.tries(), 4);
        evenings(x, 0, 0, 1, 1, 0);
        x = new DinnerRounds(6);
        x.table(0, NONE, 7);
        x.table(0, NONE, 3);
        x.table(0, NONE, 12);
        x.table(0, NONE, 48);
        check.due("the first can't be placed", x.part(0, 20000), NONE);
        x.table(0, NONE, 56);
        check.due("now it can", x.part(0, 20000), 2);
        evenings(x, 0, 0, 1, 1, 1, 0);
    }

    private static void partingAmongOthers() {
        DinnerRounds x = new DinnerRounds(4);
        x.table(0, 0, 3);
        x.table(0, NONE, 3);
        x.table(0, 2, 15);
        x.table(0, NONE, 12);
        x.table(0, NONE, 15);
        check.due("evenings without tables", x.part(0, 20000), 2);
        evenings(x, 0, 0, 1, 2, 1, 3);
        x = new DinnerRounds(4);
        for (int evening = 0; evening < 12; evening++) {
            x.table(0, evening, 3);
        }
        x.table(0, NONE, 15);
        check.due("no evening is left", x.part(0, 20000), NONE);
        check.due("no try", x.tries(), 0);
        x.clear(0, 5);
        x.table(0, NONE, 15);
        check.due("one is left for two", x.part(0, 20000), NONE);
        check.due("two tries", x.tries(), 2);
        x.clear(0, 11);
        check.due("one for one", x.part(0, 20000), 1);
        check.due("the free one", x.at(0, 11, 1), 5);
    }

    private static void partOthers() {
        DinnerRounds x = new DinnerRounds(4);
        x.complete(0, 2, 1, 20000);
        int[][] rows = {{3, 5}, {-1, 5}, {0, 0}, {0, 20001}, {0, -1}};
        for (int[] r : rows) {
            check.due("others", x.part(r[0], r[1]), NONE);
            check.due("tries stay", x.tries(), 6);
        }
        check.due("nothing is placed", x.about(30), 0);
    }

    private static void renaming() {
        DinnerRounds x = new DinnerRounds(4);
        check.due("without tables all", x.renamed(0, NONE), 24);
        check.due("any becomes any", x.renamed(0, 3), 0);
        x.table(0, 2, 3);
        check.due("one pair", x.renamed(0, NONE), 4);
        check.due("1 becomes 0", x.renamed(0, 1), 0);
        check.due("3 becomes 2", x.renamed(0, 3), 2);
        x.table(0, NONE, 3);
        x.table(0, NONE, 12);
        check.due("as often each", x.renamed(0, NONE), 4);
        check.due("2 stays 2", x.renamed(0, 2), 2);
        x.table(0, 3, 12);
        check.due("two and two", x.renamed(0, NONE), 8);
        check.due("2 becomes 0", x.renamed(0, 2), 0);
        check.due("guest 4", x.renamed(0, 4), NONE);
        check.due("guest -2", x.renamed(0, -2), NONE);
        check.due("plan 3", x.renamed(3, NONE), NONE);
        x = new DinnerRounds(8);
        check.due("eight", x.renamed(0, NONE), 40320);
        for (int i = 0; i < 7; i++) {
            x.table(0, NONE, 3 << i);
        }
        check.due("a row and its mirror", x.renamed(0, NONE), 2);
        check.due("7 becomes 0", x.renamed(0, 7), 0);
        check.due("4 becomes 3", x.renamed(0, 4), 3);
        check.due("3 stays", x.renamed(0, 3), 3);
        x = new DinnerRounds(9);
        check.due("nine", x.renamed(0, NONE), NONE);
        check.due("nine", x.renamed(0, 0), NONE);
    }

    private static void likeness() {
        DinnerRounds x = new DinnerRounds(5);
        check.due("both empty", x.like(0, 1), 1);
        check.due("one and the same", x.like(0, 0), 1);
        x.table(0, 0, 3);
        check.due("one has more", x.like(0, 1), 0);
        x.table(1, 4, 24);
        check.due("other names", x.like(0, 1), 1);
        x.table(0, 1, 6);
        x.table(1, NONE, 6);
        check.due("joined and apart", x.like(0, 1), 0);
        check.due("apart and joined", x.like(1, 0), 0);
        x.clear(1, 1);
        x.table(1, NONE, 17);
        check.due("joined", x.like(0, 1), 1);
        x.table(0, NONE, 3);
        x.table(1, NONE, 3);
        check.due("a pair twice", x.like(0, 1), 0);
        check.due("others", x.like(0, 3), NONE);
        check.due("others", x.like(-1, 0), NONE);
        check.due("nine", new DinnerRounds(9).like(0, 1), NONE);
        check.due("eight", new DinnerRounds(8).like(0, 1), 1);
    }
}
