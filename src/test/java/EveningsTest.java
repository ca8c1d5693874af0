/** Promises 22 to 25: the cheapest evening, and guests that change places. */
public final class EveningsTest {
    private static final int NONE = DinnerRounds.NONE;
    private static final int OTHERS = -10000000;
    private static final Check check = new Check("EveningsTest");

    public static void main(String[] args) {
        cheapest();
        cheapestOthers();
        greatCosts();
        sitting();
        changing();
        bettering();
        check.close();
    }

    private static void cheapest() {
        DinnerRounds x = new DinnerRounds(4);
        check.due("without a rule", x.cheapest(0, 2, NONE), 0);
        check.due("the first", x.cheapest(0, 2, 0), 3);
        check.due("and the rest", x.cheapest(0, 2, 3), 12);
        check.due("all at one", x.cheapest(0, 4, 2), 15);
        Check.rule(x, "bar quarrels > 0; cost again*10 + oldest - youngest;");
        x.by(0, 0);
        x.table(0, NONE, 3);
        check.due("a like cost", x.cheapest(0, 2, NONE), 0);
        check.due("the lower set", x.cheapest(0, 2, 0), 5);
        x.quarrel(1, 3, true);
        check.due("one is barred", x.cheapest(0, 2, 0), 9);
        x.quarrel(0, 3, true);
        check.due("two are barred", x.cheapest(0, 2, NONE), 10);
        check.due("two are barred", x.cheapest(0, 2, 2), 12);
        x.quarrel(0, 1, true);
        check.due("all are barred", x.cheapest(0, 2, NONE), OTHERS);
        check.due("all are barred", x.cheapest(0, 2, 1), OTHERS);
        check.due("one table is barred", x.cheapest(0, 4, NONE), OTHERS);
        x = new DinnerRounds(6);
        int[] ages = {10, 80, 11, 82, 50, 51};
        for (int i = 0; i < 6; i++) {
            x.guest(i, 0, ages[i]);
        }
        Check.rule(x, "cost oldest-youngest;");
        x.by(0, 0);
        check.due("alike in age", x.cheapest(0, 2, NONE), 4);
        check.due("0", x.cheapest(0, 2, 0), 5);
        check.due("1", x.cheapest(0, 2, 1), 10);
        check.due("4", x.cheapest(0, 2, 4), 48);
        check.due("by three", x.cheapest(0, 3, NONE), 40 + 31);
        check.due("by three", x.cheapest(0, 3, 0), 21);
    }

    private static void cheapestOthers() {
        DinnerRounds x = new DinnerRounds(12);
        check.due("5 doesn't go into 12", x.cheapest(0, 5, NONE), OTHERS);
        check.due("1", x.cheapest(0, 1, NONE), OTHERS);
        check.due("7", x.cheapest(0, 7, NONE), OTHERS);
        check.due("12", x.cheapest(0, 12, NONE), OTHERS);
        check.due("0", x.cheapest(0, 0, NONE), OTHERS);
        check.due("guest 12", x.cheapest(0, 2, 12), OTHERS);
        check.due("guest -2", x.cheapest(0, 2, -2), OTHERS);
        check.due("plan 3", x.cheapest(3, 2, NONE), OTHERS);
        check.due("plan -1", x.cheapest(-1, 2, NONE), OTHERS);
        int[] sizes = {2, 3, 4, 6};
        for (int k : sizes) {
            check.due("by " + k, x.cheapest(0, k, 0), (1 << k) - 1);
            check.due("by " + k, x.cheapest(0, k, 11), ((1 << k) - 1) << 12 - k);
        }
    }

    private static void greatCosts() {
        DinnerRounds x = new DinnerRounds(12);
        Check.rule(x, "cost 9999*9999;");
        Check.rule(x, "cost -9999*9999;");
        x.by(0, 0);
        x.by(1, 1);
        check.due("six of the most", x.cheapest(0, 2, NONE), 6000000);
        check.due("six of the least", x.cheapest(1, 2, NONE), -6000000);
    }

    private static void sitting() {
        DinnerRounds x = new DinnerRounds(6);
        Check.rule(x, "cost again*5;");
        x.by(0, 0);
        check.due("sit", x.sit(0, 3, 4), 2);
        check.due("first", x.at(0, 0, 0), 7);
        check.due("second", x.at(0, 1, 0), 56);
        check.due("evening", x.at(0, 1, 1), 4);
        check.due("sat already", x.sit(0, 3, 4), NONE);
        check.due("by two", x.sit(0, 2, 0), 3);
        check.due("as they met", x.at(0, 2, 0), 9);
        check.due("as they met", x.at(0, 3, 0), 18);
        check.due("as they met", x.at(0, 4, 0), 36);
        check.due("4 doesn't go into 6", x.sit(0, 4, 1), NONE);
        check.due("evening none", x.sit(0, 2, NONE), NONE);
        check.due("evening 12", x.sit(0, 2, 12), NONE);
        check.due("k 1", x.sit(0, 1, 1), NONE);
        check.due("k 7", x.sit(0, 7, 1), NONE);
        check.due("plan 3", x.sit(3, 2, 1), NONE);
        for (int i = 5; i < 58; i++) {
            x.table(0, NONE, 3);
        }
        check.due("61 would be", x.sit(0, 2, 1), NONE);
        check.due("58 stay", x.about(10), 58);
        check.due("60 may be", x.sit(0, 3, 1), 2);
        Check.rule(x, "bar size=2;");
        x.by(1, 1);
        check.due("there is none", x.sit(1, 2, 1), NONE);
        check.due("none came", x.about(11), 0);
    }

    private static void changing() {
        DinnerRounds x = new DinnerRounds(6);
        x.table(0, 0, 3);
        x.table(0, 1, 3);
        x.table(0, 0, 28);
        x.table(0, NONE, 48);
        check.due("change", x.change(0, 0, 4, 1), true);
        check.due("the one", x.at(0, 0, 0), 17);
        check.due("the other", x.at(0, 2, 0), 14);
        check.due("another evening stays", x.at(0, 1, 0), 3);
        check.due("meet", x.meet(0, 0, 1), 1);
        check.due("meet", x.meet(0, 0, 4), 1);
        check.due("meet", x.meet(0, 1, 3), 1);
        check.due("at one table", x.change(0, 0, 1, 2), false);
        check.due("at none", x.change(0, 0, 0, 5), false);
        check.due("at none", x.change(0, 0, 5, 0), false);
        check.due("at none", x.change(0, 0, 2, 5), false);
        check.due("one and the same", x.change(0, 0, 0, 0), false);
        check.due("no evening", x.change(0, NONE, 4, 0), false);
        check.due("evening 12", x.change(0, 12, 4, 1), false);
        check.due("guest 6", x.change(0, 0, 6, 1), false);
        check.due("guest -1", x.change(0, 0, 0, -1), false);
        check.due("plan 3", x.change(3, 0, 0, 1), false);
        check.due("nothing changed", x.at(0, 0, 0), 17);
        x.table(1, NONE, 3);
        x.table(1, NONE, 3);
        x.table(1, NONE, 12);
        check.due("tables without evening", x.change(1, NONE, 0, 2), false);
        check.due("no best change there", x.best(1, NONE, 1, 0), NONE);
    }

    private static void bettering() {
        DinnerRounds x = new DinnerRounds(4);
        for (int evening = 0; evening < 2; evening++) {
            x.table(0, evening, 3);
            x.table(0, evening, 12);
        }
        check.due("miss", x.miss(0, 1), 6);
        check.due("lower", x.best(0, 1, 1, 0), 0);
        check.due("higher", x.best(0, 1, 1, 1), 2);
        check.due("miss behind", x.best(0, 1, 1, 2), 2);
        check.due("nothing was done", x.miss(0, 1), 6);
        check.due("what 3", x.best(0, 1, 1, 3), NONE);
        check.due("what -1", x.best(0, 1, 1, -1), NONE);
        check.due("an evening without tables", x.best(0, 2, 1, 0), NONE);
        check.due("evening 12", x.best(0, 12, 1, 0), NONE);
        check.due("no evening", x.best(0, NONE, 1, 0), NONE);
        check.due("plan 3", x.best(3, 1, 1, 0), NONE);
        check.due("l 61", x.best(0, 1, 61, 0), NONE);
        check.due("l -1", x.best(0, 1, -1, 0), NONE);
        check.due("not below", x.best(0, 1, 60, 0), NONE);
        check.due("not below", x.best(0, 1, 60, 2), NONE);
        x.change(0, 1, 0, 2);
        check.due("what it told", x.miss(0, 1), 2);
        check.due("no better one", x.best(0, 1, 1, 0), NONE);
        x = new DinnerRounds(6);
        int[] sets = {Check.set(0, 3), Check.set(1, 3), Check.set(2, 4), Check.set(2, 5)};
        for (int set : sets) {
            x.table(0, NONE, set);
        }
        x.table(0, 0, Check.set(0, 1, 3));
        x.table(0, 0, Check.set(2, 4, 5));
        check.due("miss", x.miss(0, 1), 13);
        check.due("two who are neighbours", x.best(0, 0, 1, 0), 2);
        check.due("two who are neighbours", x.best(0, 0, 1, 1), 3);
        check.due("miss behind", x.best(0, 0, 1, 2), 5);
    }
}
