/** Promises 11 to 16: the tape, the rules, their faults, and how sets are judged. */
public final class RulesTest {
    private static final int NONE = DinnerRounds.NONE;
    private static final int OTHERS = -10000000;
    private static final Check check = new Check("RulesTest");

    public static void main(String[] args) {
        feeding();
        ending();
        telling();
        faults();
        nesting();
        clauses();
        ruling();
        words();
        sums();
        asks();
        others();
        check.close();
    }

    private static void feeding() {
        DinnerRounds x = new DinnerRounds(4);
        check.due("empty", x.about(4), 0);
        for (int i = 1; i <= 15; i++) {
            check.due("feed", x.feed(1, 2, 3, 4, 5), 20 * i);
        }
        check.due("full", x.feed(1, 2, 3, 4, 5), NONE);
        check.due("none came", x.about(4), 300);
        x.end(281);
        check.due("one too many", x.feed(1, 2, 3, 4, 5), NONE);
        x.end(280);
        check.due("just so many", x.feed(1, 2, 3, 4, 5), 300);
        x.end(0);
        // "bar size" in a and b: the highest byte of a is the first.
        x.feed(0x62617220, 0x73697a65, 0x3d323b20, 0x20202020, 0x20202020);
        check.due("the bytes' order", x.rule(), 0);
        x.feed(0xffffffff, 0, 0, 0, 0);
        check.due("a byte above 127", x.rule(), NONE);
        check.due("is none", x.fault(0), 1);
        check.due("at 0", x.fault(1), 0);
    }

    private static void ending() {
        DinnerRounds x = new DinnerRounds(4);
        check.due("0 of 0", x.end(0), 0);
        check.due("1 of 0", x.end(1), NONE);
        x.feed(1, 2, 3, 4, 5);
        check.due("21", x.end(21), NONE);
        check.due("-1", x.end(-1), NONE);
        check.due("nothing done", x.about(4), 20);
        check.due("20", x.end(20), 20);
        check.due("7", x.end(7), 7);
        check.due("7 are left", x.about(4), 7);
        check.due("8", x.end(8), NONE);
    }

    private static void telling() {
        DinnerRounds x = new DinnerRounds(4);
        check.due("fault ahead of any", x.fault(0), NONE);
        check.due("place ahead of any", x.fault(1), NONE);
        check.due("an empty text", x.rule(), 0);
        check.due("no fault", x.fault(0), 0);
        check.due("no place", x.fault(1), NONE);
        check.due("what 2", x.fault(2), NONE);
        check.due("what -1", x.fault(-1), NONE);
        check.due("blanks", Check.rule(x, "  \n "), 1);
        check.due("a fault", Check.rule(x, "bar"), NONE);
        check.due("the tape is empty", x.about(4), 0);
        check.due("of a fault no rule", x.about(2), 2);
        check.due("third", Check.rule(x, "cost 1;"), 2);
        check.due("fourth", Check.rule(x, "cost 2;"), 3);
        check.due("fifth", Check.rule(x, "bar;"), NONE);
        check.due("the tape stays", x.about(4), 4);
        check.due("it was not read", x.fault(0), 0);
        check.due("four", x.about(2), 4);
    }

    private static void fault(String text, int which, int place) {
        DinnerRounds x = new DinnerRounds(4);
        int number = Check.rule(x, text);
        check.due("rule of " + text, number, which == 0 ? 0 : NONE);
        check.due("fault of " + text, x.fault(0), which);
        check.due("place of " + text, x.fault(1), place);
        check.due("tape behind " + text, x.about(4), 0);
    }

    private static void faults() {
        fault("bar size<3;", 0, NONE);
        fault("bar size\n<\n3 ; cost size*2;", 0, NONE);
        fault("bar1<2;cost 3;bar size#again or not age>=7 and sides=1;", 0, NONE);
        fault("bar size<3", 1, 10);
        fault("bar size<3   ", 1, 13);
        fault("bar", 1, 3);
        fault("size<3;", 1, 0);
        fault(";", 1, 0);
        fault("bar ;", 1, 4);
        fault("bar size;", 1, 8);
        fault("bar size< =3;", 1, 10);
        fault("bar size==3;", 1, 9);
        fault("bar size=<3;", 1, 9);
        fault("bar size<>3;", 1, 9);
        fault("bar size<=3;", 0, NONE);
        fault("bar (size<3);", 1, 9);
        fault("bar (size)<3;", 0, NONE);
        fault("bar size<3 or;", 1, 13);
        fault("bar size<3 and or 1<2;", 1, 15);
        fault("bar size<3 not 1<2;", 1, 11);
        fault("bar 1<2<3;", 1, 7);
        fault("bar size3<4;", 1, 8);
        fault("bar 3size<4;", 1, 5);
        fault("bar Size<3;", 1, 4);
        fault("Bar size<3;", 1, 0);
        fault("bar sizes<3;", 1, 4);
        fault("bar siz<3;", 1, 4);
        fault("barsize<3;", 1, 0);
        fault("bar cost<3;", 1, 4);
        fault("cost size<3;", 1, 9);
        fault("cost not 1;", 1, 5);
        fault("cost 1+;", 1, 7);
        fault("cost +1;", 1, 5);
        fault("cost 1--1;", 0, NONE);
        fault("cost (1;", 1, 7);
        fault("cost 1);", 1, 6);
        fault("cost ();", 1, 6);
        fault("cost 1\t;", 1, 6);
        fault("cost 1$;", 1, 6);
        fault("cost 1!;", 1, 6);
        fault("cost 9999;", 0, NONE);
        fault("cost 0009999;", 0, NONE);
        fault("cost 10000;", 2, 5);
        fault("cost 0010000;", 2, 5);
        fault("cost 1+99999999999999999999999999;", 2, 7);
        fault("cost 4294967297;", 2, 5);
        fault("cost 1 10000;", 1, 7);
        fault("10000;", 1, 0);
        fault("cost 10000 $;", 2, 5);
        fault("cost $ 10000;", 1, 5);
        fault("cost 1;cost 2;", 4, 7);
        fault("cost 1;bar 1<2;cost", 4, 15);
        fault("cost 1;bar 1<2;cost 10000;", 4, 15);
    }

    private static void nesting() {
        fault("cost ((((((((1))))))));", 0, NONE);
        fault("cost (((((((((1)))))))));", 3, 13);
        fault("cost --------1;", 0, NONE);
        fault("cost ---------1;", 3, 13);
        fault("bar not not not not not not not not 1<2;", 0, NONE);
        fault("bar not not not not not not not not not 1<2;", 3, 36);
        fault("bar not(((((((1)))))))<2;", 0, NONE);
        fault("bar not((((((((1))))))))<2;", 3, 14);
        fault("bar not 1<((((((((2))))))));", 3, 17);
        fault("bar not 1<2 and ((((((((2))))))))<3;", 0, NONE);
        fault("cost (-(-(-(-1))))+--------2;", 0, NONE);
        fault("cost (-(-(-(-(1)))));", 3, 13);
        fault("cost (1)+((((((((1))))))))-(1);", 0, NONE);
        fault("cost ((((((((1-2*-3))))))));", 3, 17);
        fault("cost ((((((((1-2*3))))))));", 0, NONE);
        fault("cost ((((((((1(", 1, 14);
        fault("cost ((((((((10000", 2, 13);
    }

    private static void clauses() {
        String twelve = "bar 1<2;".repeat(12);
        fault(twelve, 0, NONE);
        fault(twelve + "   ", 0, NONE);
        fault(twelve + "bar 1<2;", 5, 96);
        fault(twelve + " cost 1;", 5, 97);
        fault(twelve + "bar", 5, 96);
        fault(twelve + "foo", 1, 96);
        fault(twelve + "10000", 1, 96);
        fault("cost 1;" + "bar 1<2;".repeat(11) + "cost 2;", 4, 95);
        fault("cost 1;" + "bar 1<2;".repeat(11), 0, NONE);
    }

    private static void ruling() {
        DinnerRounds x = new DinnerRounds(4);
        check.due("no rule yet", x.by(0, 0), false);
        check.due("none", x.by(0, NONE), true);
        Check.rule(x, "bar size=2;cost 7;");
        check.due("by", x.by(2, 0), true);
        check.due("told", x.about(22), 0);
        check.due("others not", x.about(20), NONE);
        check.due("rule 1", x.by(2, 1), false);
        check.due("rule -2", x.by(2, -2), false);
        check.due("plan 3", x.by(3, 0), false);
        check.due("plan -1", x.by(-1, 0), false);
        check.due("stays", x.about(22), 0);
        check.due("barred", x.judged(2, 3, 0), 1);
        check.due("cost", x.judged(2, 3, 1), 7);
        check.due("none again", x.by(2, NONE), true);
        check.due("not barred", x.judged(2, 3, 0), 0);
        check.due("cost 0", x.judged(2, 3, 1), 0);
    }

    private static int worth(DinnerRounds x, String text, int plan, int set) {
        if (x.about(2) == 4) {
            return -77;
        }
        int number = Check.rule(x, "cost " + text + ";");
        x.by(plan, number);
        return x.judged(plan, set, 1);
    }

    private static DinnerRounds club() {
        DinnerRounds x = new DinnerRounds(6);
        x.guest(0, 1, 30);
        x.guest(1, 2, 40);
        x.guest(2, 1, 50);
        x.guest(3, 3, 99);
        x.guest(4, 0, 7);
        x.quarrel(0, 1, true);
        x.quarrel(1, 2, true);
        x.quarrel(2, 5, true);
        x.table(0, 0, 7);
        x.table(0, NONE, 6);
        x.table(0, NONE, 22);
        x.table(1, NONE, 40);
        return x;
    }

    private static void words() {
        String[] words = {"size", "age", "oldest", "youngest", "sides", "quarrels", "again"};
        int[] sets = {7, 3, 24, 63, 48, 22};
        int[][] due = {{3, 120, 50, 30, 2, 2, 3}, {2, 70, 40, 30, 2, 1, 1}, {2, 106, 99, 7, 2, 0, 0},
            {6, 226, 99, 0, 4, 3, 3}, {2, 7, 7, 0, 1, 0, 0}, {3, 97, 50, 7, 3, 1, 3}};
        for (int w = 0; w < words.length; w++) {
            for (int s = 0; s < sets.length; s++) {
                check.due(words[w] + " of " + sets[s], worth(club(), words[w], 0, sets[s]), due[s][w]);
            }
        }
        check.due("again in another plan", worth(club(), "again", 1, 7), 0);
        check.due("again in another plan", worth(club(), "again", 1, 40), 1);
    }

    private static void sums() {
        String[] texts = {"1-2-3", "2+3*4", "7/2", "-7/2", "7/-2", "5/0", "0/0", "-(5/0)", "100/7/2", "2*(3+4)", "--5",
            "-2*3", "1--2", "9999*9999", "-9999*9999", "9999*9999-1", "9999*9999*9999/1000", "0-9999*9999+1",
            "1000*1000+1", "1000*1000-1", "12/5*5", "3-4*2/3", "-size", "0007", "9999*101-9999*101"};
        int[] due = {-4, 14, 3, -3, -3, 0, 0, 0, 7, 14, 5, -6, 3, 1000000, -1000000, 999999, 1000, -999999,
            1000000, 999999, 10, 1, -2, 7, 0};
        for (int i = 0; i < texts.length; i++) {
            check.due(texts[i], worth(new DinnerRounds(4), texts[i], 0, 3), due[i]);
        }
    }

    private static void ask(String text, int due) {
        DinnerRounds x = new DinnerRounds(4);
        Check.rule(x, text);
        x.by(0, 0);
        check.due(text, x.judged(0, 3, 0), due);
    }

    private static void asks() {
        ask("bar 1<2;", 1);
        ask("bar 2<2;", 0);
        ask("bar 2<=2;", 1);
        ask("bar 3<=2;", 0);
        ask("bar 2>2;", 0);
        ask("bar 3>2;", 1);
        ask("bar 2>=2;", 1);
        ask("bar 1>=2;", 0);
        ask("bar 2=2;", 1);
        ask("bar 1=2;", 0);
        ask("bar 2#2;", 0);
        ask("bar 1#2;", 1);
        ask("bar not 1#2;", 0);
        ask("bar not not 1#2;", 1);
        ask("bar 1=1 or 1=2 and 1=3;", 1);
        ask("bar 1=2 and 1=1 or 1=1;", 1);
        ask("bar 1=2 and 1=1 or 1=3;", 0);
        ask("bar not 1=2 and 1=1;", 1);
        ask("bar not 1=1 or 1=1;", 1);
        ask("bar not 1=2 and 1=2;", 0);
        ask("bar 1=2;bar 1=1;bar 1=2;", 1);
        ask("bar 1=2;bar 1=3;", 0);
        ask("cost 1;", 0);
        ask("", 0);
        DinnerRounds x = new DinnerRounds(4);
        Check.rule(x, "bar 1=1;");
        x.by(0, 0);
        check.due("cost without cost", x.judged(0, 3, 1), 0);
    }

    private static void others() {
        DinnerRounds x = new DinnerRounds(8);
        check.due("plan 3", x.judged(3, 3, 0), OTHERS);
        check.due("plan -1", x.judged(-1, 3, 0), OTHERS);
        check.due("one", x.judged(0, 1, 0), OTHERS);
        check.due("seven", x.judged(0, 127, 1), OTHERS);
        check.due("six", x.judged(0, 63, 1), 0);
        check.due("no guest", x.judged(0, 257, 1), OTHERS);
        check.due("below", x.judged(0, -1, 1), OTHERS);
        check.due("what 2", x.judged(0, 3, 2), OTHERS);
        check.due("what -1", x.judged(0, 3, -1), OTHERS);
    }
}
