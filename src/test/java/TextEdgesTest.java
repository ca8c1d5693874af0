/** Promises 11 to 16, each sentence that names an edge: at it, and at the first value on either side of it. */
public final class TextEdgesTest {
    private static final int NONE = DinnerRounds.NONE;
    private static final int OTHERS = -10000000;
    private static final int LEAST = Integer.MIN_VALUE;
    private static final int MOST = Integer.MAX_VALUE;
    private static final Check check = new Check("TextEdgesTest");

    public static void main(String[] args) {
        feeding();
        ending();
        fourRules();
        nothingLeft();
        faultAsked();
        longTexts();
        everyByte();
        tokens();
        numbers();
        firstFault();
        secondCost();
        thirteenClauses();
        nineOpen();
        openAndClosed();
        cutSums();
        quotients();
        bothSides();
        clausesOfARule();
        wordsOfEachGuest();
        rulesOfPlans();
        judgedOthers();
        check.close();
    }

    /** A text, the fault due (0 without) and its place. */
    private static void text(String text, int fault, int place) {
        DinnerRounds x = new DinnerRounds(4);
        int number = Check.rule(x, text);
        String name = "rule of " + text.replace('\n', '~');
        check.due(name, number, fault == 0 ? 0 : NONE);
        check.due(name + ", its fault", x.fault(0), fault);
        check.due(name + ", its place", x.fault(1), place);
        check.due(name + ", the tape", x.about(4), 0);
        check.due(name + ", rules", x.about(2), fault == 0 ? 1 : 0);
    }

    private static void sound(String text) {
        text(text, 0, NONE);
    }

    private static void cost(String sum, int due) {
        DinnerRounds x = new DinnerRounds(6);
        Check.rule(x, "cost " + sum + ";");
        x.by(0, 0);
        check.due(sum, x.judged(0, 3, 1), due);
    }

    private static void barred(String text, int due) {
        DinnerRounds x = new DinnerRounds(6);
        Check.rule(x, text);
        check.due("by for " + text, x.by(0, 0), true);
        check.due(text, x.judged(0, 3, 0), due);
    }

    private static void feeding() {
        check.says("11: twenty bytes come behind the tape, the highest of a first: how many it has");
        DinnerRounds x = new DinnerRounds(4);
        // "bar size=2;cost 123;"
        check.due(x.feed(0x62617220, 0x73697a65, 0x3d323b63, 0x6f737420, 0x3132333b), 20);
        check.due(x.rule(), 0);
        x.by(0, 0);
        check.due(x.judged(0, 3, 1), 123);
        check.due(x.judged(0, 3, 0), 1);
        // Bytes above 127 are bytes too: none of them is a token.
        check.due(x.feed(0xff202020, 0x20202020, 0x20202020, 0x20202020, 0x202020ff), 20);
        check.due(x.end(19), 19);
        check.due(x.rule(), NONE);
        check.due(x.fault(1), 0);
        check.says("11: NONE, and none come, if there would be more than 300");
        x = new DinnerRounds(4);
        String text = "cost 77;" + " ".repeat(273);
        check.due(Check.tell(x, text), true);
        check.due(x.about(4), 281);
        check.due(x.feed(-1, -1, -1, -1, -1), NONE);
        check.due(x.about(4), 281);
        check.due(x.end(282), NONE);
        check.due(x.rule(), 0);
        x.by(0, 0);
        check.due(x.judged(0, 3, 1), 77);
        for (int i = 1; i <= 15; i++) {
            check.due(x.feed(0x20202020, 0x20202020, 0x20202020, 0x20202020, 0x20202020), 20 * i);
        }
        check.due(x.feed(-1, -1, -1, -1, -1), NONE);
        check.due(x.about(4), 300);
        check.due(x.end(280), 280);
        check.due(x.feed(0x20202020, 0x20202020, 0x20202020, 0x20202020, 0x2020203b), 300);
        check.due(x.rule(), NONE);
        check.due(x.fault(1), 299);
    }

    private static void ending() {
        check.says("12: NONE, and nothing is done, if it has not so many, or n is below 0");
        DinnerRounds x = new DinnerRounds(4);
        int[][] empty = {{-1, NONE}, {0, 0}, {1, NONE}, {LEAST, NONE}, {MOST, NONE}};
        for (int[] r : empty) {
            check.due(x.end(r[0]), r[1]);
            check.due(x.about(4), 0);
        }
        x.feed(0x636f7374, 0x20353b24, 0x20202020, 0x20202020, 0x20202020);
        int[][] refused = {{-1, NONE}, {21, NONE}, {300, NONE}, {LEAST, NONE}, {MOST, NONE}};
        for (int[] r : refused) {
            check.due(x.end(r[0]), r[1]);
            check.due(x.about(4), 20);
        }
        check.due(x.end(20), 20);
        check.due(x.end(19), 19);
        check.due(x.end(20), NONE);
        check.due(x.about(4), 19);
        check.says("12: the tape has its first n bytes alone: n");
        check.due(x.end(7), 7);
        check.due(x.rule(), 0);
        x.by(0, 0);
        check.due(x.judged(0, 3, 1), 5);
        x.feed(0x636f7374, 0x20353b24, 0x20202020, 0x20202020, 0x20202020);
        check.due(x.end(8), 8);
        check.due(x.rule(), NONE);
        check.due(x.fault(1), 7);
        // What comes next stands behind the bytes that were left: "cost 5" and "1;".
        x.feed(0x636f7374, 0x20353b24, 0x20202020, 0x20202020, 0x20202020);
        check.due(x.end(6), 6);
        check.due(x.feed(0x313b2020, 0x20202020, 0x20202020, 0x20202020, 0x20202020), 26);
        check.due(x.rule(), 1);
        x.by(0, 1);
        check.due(x.judged(0, 3, 1), 51);
        x.feed(-1, -1, -1, -1, -1);
        check.due(x.end(0), 0);
        check.due(x.about(4), 0);
        check.due(x.rule(), 2);
        check.due(x.fault(0), 0);
    }

    private static void fourRules() {
        check.says("13: the tape (empty then) is a RULE: its number; NONE: it has a FAULT");
        DinnerRounds x = new DinnerRounds(4);
        check.due(Check.rule(x, "cost 1;"), 0);
        check.due(x.about(4), 0);
        check.due(Check.rule(x, "cost $;"), NONE);
        check.due(x.about(4), 0);
        check.due(x.about(2), 1);
        check.due(Check.rule(x, "cost 2;"), 1);
        x.image();
        check.due(Check.rule(x, "cost 3;"), 2);
        check.due(x.about(2), 3);
        check.due(Check.rule(x, "cost 4;"), 3);
        check.due(x.about(2), 4);
        check.says("13: NONE: or (the tape stays) there are 4");
        check.due(Check.rule(x, "cost 55;"), NONE);
        check.due(x.about(4), 8);
        check.due(x.about(2), 4);
        check.due(x.fault(0), 0);
        check.due(x.rule(), NONE);
        check.due(x.about(4), 8);
        x.end(7);
        check.due(x.rule(), NONE);
        check.due(x.about(4), 7);
        check.due(x.fault(0), 0);
        check.due(x.fault(1), NONE);
        for (int i = 0; i < 4; i++) {
            x.by(0, i);
            check.due(x.judged(0, 3, 1), i + 1);
        }
        // The tape is not of the image: behind going back it is still there, and there is room.
        x.back();
        check.due(x.about(4), 7);
        check.due(x.about(2), 2);
        check.due(x.rule(), NONE);
        check.due(x.fault(0), 1);
        check.due(x.fault(1), 7);
        check.due(Check.rule(x, "cost 6;"), 2);
        check.due(Check.rule(x, "cost 7;"), 3);
        check.due(Check.rule(x, "cost 8;"), NONE);
        x.by(0, 2);
        check.due(x.judged(0, 3, 1), 6);
    }

    private static void nothingLeft() {
        check.says("13: of a text with a FAULT, and of RULES that are gone, nothing is left in the next one");
        String[] first = {"bar 1=1;cost 9;$", "bar 1=1;cost 9;bar 1<(2+", "cost 9;bar 1=1 or"};
        for (String text : first) {
            DinnerRounds x = new DinnerRounds(4);
            check.due(Check.rule(x, text), NONE);
            check.due(Check.rule(x, "bar 1=2;"), 0);
            x.by(0, 0);
            check.due(x.judged(0, 3, 0), 0);
            check.due(x.judged(0, 3, 1), 0);
        }
        DinnerRounds x = new DinnerRounds(4);
        check.due(Check.rule(x, "bar 1=1;cost 9;"), 0);
        x.back();
        check.due(Check.rule(x, ""), 0);
        x.by(0, 0);
        check.due(x.judged(0, 3, 0), 0);
        check.due(x.judged(0, 3, 1), 0);
        x.back();
        check.due(Check.rule(x, "cost 4;"), 0);
        x.by(0, 0);
        check.due(x.judged(0, 3, 0), 0);
        check.due(x.judged(0, 3, 1), 4);
    }

    private static void faultAsked() {
        check.says("14: NONE for others, and ahead of any");
        DinnerRounds x = new DinnerRounds(4);
        for (int what = -2; what <= 3; what++) {
            check.due(x.fault(what), NONE);
        }
        check.says("14: 0 its FAULT (0 without), 1 its place (NONE without)");
        int[] whats = {LEAST, -1, 0, 1, 2, MOST};
        int[] without = {NONE, NONE, 0, NONE, NONE, NONE};
        int[] with = {NONE, NONE, 2, 5, NONE, NONE};
        Check.rule(x, "cost 1;");
        for (int i = 0; i < whats.length; i++) {
            check.due(x.fault(whats[i]), without[i]);
        }
        Check.rule(x, "cost 10000;");
        for (int i = 0; i < whats.length; i++) {
            check.due(x.fault(whats[i]), with[i]);
        }
        check.says("14: of the latest text that was read");
        Check.tell(x, "$");
        check.due(x.fault(0), 2);
        x.rule();
        check.due(x.fault(0), 1);
        check.due(x.fault(1), 0);
        Check.rule(x, "");
        check.due(x.fault(0), 0);
        check.due(x.fault(1), NONE);
    }

    private static void longTexts() {
        check.says("Terms: texts of up to 300 bytes");
        sound("cost 1" + "+1".repeat(146) + "; ");
        cost("1" + "+1".repeat(146), 147);
        sound("bar 1" + "+1".repeat(145) + "<=2;");
        sound(" ".repeat(293) + "cost 1;");
        text(" ".repeat(293) + "cost 1$", 1, 299);
        text(" ".repeat(293) + "cost 12", 1, 300);
        text("cost 1" + " ".repeat(294), 1, 300);
        text("\n".repeat(299) + ";", 1, 299);
        sound("\n".repeat(300));
        text("x".repeat(300), 1, 0);
        text("cost " + "9".repeat(295), 2, 5);
        sound("cost " + "0".repeat(294) + ";");
        text(";".repeat(300), 1, 0);
        for (String last : new String[] {"<", ">", "<=", ">=", "=", "#"}) {
            text("bar 1" + " ".repeat(295 - last.length()) + last, 1, 300);
        }
        text("bar 1" + " ".repeat(293) + "==", 1, 299);
        check.says("Terms: {CLAUSE}: none is a text too");
        sound("");
        sound(" ");
        sound("\n");
        barred("", 0);
    }

    private static void everyByte() {
        check.says("Terms: TOKENS, blanks (32, 10) aside");
        for (int b = 0; b < 256; b++) {
            char sign = (char) b;
            boolean blank = b == 32 || b == 10;
            boolean digit = b >= '0' && b <= '9';
            if (blank || digit) {
                sound("cost 1" + sign + ";");
            } else {
                // These can stand behind a ONE, so that it is the ; behind them that can't.
                boolean goesOn = "+-*/;".indexOf(b) >= 0;
                text("cost 1" + sign + ";", 1, goesOn ? 7 : 6);
            }
        }
        check.says("Terms: letters a .. z, A .. Z one behind the other (one TOKEN)");
        for (int b = 0; b < 256; b++) {
            char sign = (char) b;
            boolean letter = b >= 'a' && b <= 'z' || b >= 'A' && b <= 'Z';
            boolean one = b >= '0' && b <= '9' || b == 32 || b == 10 || b == '(' || b == '-';
            // One more letter makes another word of the first one; a ONE may stand behind it; no other may.
            if (letter) {
                text("cost" + sign, 1, 0);
            } else {
                text("cost" + sign, 1, one ? 5 : 4);
            }
        }
    }

    private static void tokens() {
        check.says("Terms: a TOKEN ends where another kind begins");
        sound("bar1<2;");
        sound("bar not1<2and 2<3or3<4;");
        sound("bar size<2and(size)>1;cost-1;");
        text("bar size2<3;", 1, 8);
        text("bar 2size<3;", 1, 5);
        text("bar 1<2orsize<3;", 1, 7);
        text("bar notsize<3;", 1, 4);
        text("barsize<3;", 1, 0);
        text("cost sizes;", 1, 5);
        text("cost siz;", 1, 5);
        text("cost siz e;", 1, 5);
        text("cost oldestyoungest;", 1, 5);
        for (String word : new String[] {"size", "age", "oldest", "youngest", "sides", "quarrels", "again"}) {
            sound("cost " + word + ";");
            text("cost " + word.toUpperCase() + ";", 1, 5);
            text("cost " + word.substring(0, 1).toUpperCase() + word.substring(1) + ";", 1, 5);
            text("cost " + word + "x;", 1, 5);
            text("cost " + word.substring(1) + ";", 1, 5);
            text("bar " + word + ";", 1, 4 + word.length());
        }
        for (String word : new String[] {"BAR", "Bar", "baR", "COST", "bars", "ba", "cos", "costs", "size", "not",
            "or", "and"}) {
            text(word + " 1<2;", 1, 0);
        }
        check.says("Terms: <= >= < > = # + - * / ( ) ; (the longest)");
        for (String sign : new String[] {"<", "<=", ">", ">=", "=", "#"}) {
            sound("bar 1" + sign + "2;");
        }
        text("bar 1< =2;", 1, 7);
        text("bar 1<\n=2;", 1, 7);
        text("bar 1> =2;", 1, 7);
        text("bar 1<==2;", 1, 7);
        text("bar 1>==2;", 1, 7);
        text("bar 1<<=2;", 1, 6);
        text("bar 1=<2;", 1, 6);
        text("bar 1=>2;", 1, 6);
        text("bar 1==2;", 1, 6);
        text("bar 1<>2;", 1, 6);
        text("bar 1#=2;", 1, 6);
        text("bar 1!=2;", 1, 5);
        text("bar 1<", 1, 6);
        text("bar 1<=", 1, 7);
    }

    private static void numbers() {
        check.says("Terms: NUMBERS, 0 .. 9999; fault 2: a NUMBER above 9999");
        cost("0", 0);
        cost("1", 1);
        cost("9998", 9998);
        cost("9999", 9999);
        text("cost 10000;", 2, 5);
        text("cost 10001;", 2, 5);
        text("cost 99999;", 2, 5);
        cost("0009999", 9999);
        cost("000000000000000000007", 7);
        text("cost 00010000;", 2, 5);
        // What is nothing, or small, in the low 32 or 64 bits.
        text("cost 4294967296;", 2, 5);
        text("cost 4294967303;", 2, 5);
        text("cost 18446744073709551616;", 2, 5);
        text("cost 2147483648;", 2, 5);
        text("cost 1+10000;", 2, 7);
        text("bar 1<10000;", 2, 6);
        text("bar 10000<1;", 2, 4);
        text("cost -10000;", 2, 6);
        text("cost 99 99;", 1, 8);
    }

    private static void firstFault() {
        check.says("Terms: FAULTS, the first as TOKENS are come to");
        text("cost $ 10000;", 1, 5);
        text("cost 10000 $;", 2, 5);
        text("cost 10000;cost 1;cost 2;", 2, 5);
        text("cost 1;cost 2 $;", 4, 7);
        text("cost 1;$ cost 2;", 1, 7);
        text("cost (((((((((1))))))))) 10000;", 3, 13);
        text("bar (((((((((10000", 3, 12);
        text("bar " + "not ".repeat(9) + "10000", 3, 36);
        text("bar 1<" + "(".repeat(9) + "$ 10000", 3, 14);
        text("bar $ 10000<1;", 1, 4);
        text("bar 10000<$;", 2, 4);
        text("bar (1 10000)<2;", 1, 7);
        check.says("Terms: at the TOKEN's first byte (of the end at the length)");
        text("cost   foo;", 1, 7);
        text("bar 1 <= <= 2;", 1, 9);
        text("cost\n\n123456;", 2, 6);
        text("bar", 1, 3);
        text("bar  \n", 1, 6);
        text("cost 1", 1, 6);
        text("cost 1 ", 1, 7);
        text("cost (1", 1, 7);
        text("bar 1<2 or", 1, 10);
        text("bar not", 1, 7);
        text("cost -", 1, 6);
        text("c", 1, 0);
        check.says("Terms: of one the least: 1 it can't stand there, though the NUMBER is above 9999");
        text("10000", 1, 0);
        text("cost 1 10000;", 1, 7);
        text("cost (1) 10000;", 1, 9);
        text("bar 1 10000;", 1, 6);
        text("bar size 10000<1;", 1, 9);
        text("cost 1;10000;", 1, 7);
        text("bar 1<2 10000;", 1, 8);
        check.says("Terms: of one the least: 1 it can't stand there, though it is cost for the second time");
        text("cost cost 1;", 1, 5);
        text("cost 1 cost 2;", 1, 7);
        text("cost 1+cost;", 1, 7);
        text("cost 1;bar cost<2;", 1, 11);
        check.says("Terms: of one the least: 1 it can't stand there, though it is the 9th that would open");
        text("cost ((((((((1(", 1, 14);
        text("cost ((((((((not", 1, 13);
        text("bar ((((((((1))))))))((((((((((1", 1, 21);
        text("bar not not not not not not not not 1<2 not", 1, 40);
        check.says("Terms: of one the least: 4 ahead of 5, 1 ahead of 5");
        text("cost 1;" + "bar 1<2;".repeat(11) + "cost 2;", 4, 95);
        text("bar 1<2;".repeat(12) + ";", 1, 96);
        text("bar 1<2;".repeat(12) + "not", 1, 96);
        text("bar 1<2;".repeat(12) + "10000", 1, 96);
        text("bar 1<2;".repeat(12) + "\t", 1, 96);
    }

    private static void secondCost() {
        check.says("Terms: fault 4: cost for the second time (at it)");
        sound("cost 1;");
        sound("bar 1<2;cost 1;bar 1<2;");
        text("cost 1;cost 2;", 4, 7);
        text("cost 1;cost", 4, 7);
        text("cost 1; \n cost", 4, 10);
        text("cost 1;bar 1<2;cost 2;", 4, 15);
        text("bar 1<2;cost 1;cost 2;", 4, 15);
        text("cost 1;cost 2;cost 3;", 4, 7);
        // The first text's cost is none of the next text's.
        DinnerRounds x = new DinnerRounds(4);
        check.due(Check.rule(x, "cost 1;"), 0);
        check.due(Check.rule(x, "cost 1;cost 2;"), NONE);
        check.due(Check.rule(x, "cost 2;"), 1);
    }

    private static void thirteenClauses() {
        check.says("Terms: {CLAUSE}, 12 at most; fault 5: the 13th CLAUSE (at its first TOKEN)");
        String bar = "bar 1<2;";
        sound(bar);
        sound(bar.repeat(11));
        sound(bar.repeat(12));
        sound(bar.repeat(12) + "\n  ");
        sound(bar.repeat(11) + "cost 1;");
        sound("cost 1;" + bar.repeat(11));
        text(bar.repeat(13), 5, 96);
        text(bar.repeat(14), 5, 96);
        text(bar.repeat(12) + "bar", 5, 96);
        text(bar.repeat(12) + "bar $", 5, 96);
        text(bar.repeat(12) + "  bar", 5, 98);
        text(bar.repeat(12) + "cost 1;", 5, 96);
        text("cost 1;" + bar.repeat(12), 5, 95);
        text(bar.repeat(12) + "bars", 1, 96);
        text(bar.repeat(11) + "bar 1<", 1, 94);
        text(bar.repeat(11) + "bar 1<10000;", 2, 94);
        DinnerRounds x = new DinnerRounds(4);
        check.due(Check.rule(x, bar.repeat(12)), 0);
        check.due(Check.rule(x, bar.repeat(12)), 1);
    }

    private static void nineOpen() {
        check.says("Terms: fault 3: the 9th of ( that are open around one another (at it)");
        for (int open = 1; open <= 8; open++) {
            sound("cost " + "(".repeat(open) + "1" + ")".repeat(open) + ";");
        }
        text("cost (((((((((1)))))))));", 3, 13);
        text("cost ((((((((((1))))))))));", 3, 13);
        text("cost ( ( ( ( ( ( ( ( (", 3, 21);
        check.says("Terms: fault 3: the 9th of not");
        for (int open = 1; open <= 8; open++) {
            sound("bar " + "not ".repeat(open) + "1<2;");
        }
        text("bar " + "not ".repeat(9) + "1<2;", 3, 36);
        text("bar " + "not ".repeat(12) + "1<2;", 3, 36);
        check.says("Terms: fault 3: the 9th of - (of one ONE)");
        for (int open = 1; open <= 8; open++) {
            sound("cost " + "-".repeat(open) + "1;");
        }
        text("cost " + "-".repeat(9) + "1;", 3, 13);
        text("cost 1-" + "-".repeat(9) + "1;", 3, 15);
        check.says("Terms: fault 3: the 9th of ( not and - together");
        sound("bar not not not (((--1)))<2;");
        sound("bar not not not (-(-(1)))<2;");
        text("bar not not not (((---1)))<2;", 3, 21);
        text("bar not not not ((((--1))))<2;", 3, 21);
        text("bar not not not not (((--1)))<2;", 3, 24);
        text("bar not not not not (((-(1))))<2;", 3, 24);
        sound("cost -(-(-(-(1))));");
        text("cost -(-(-(-(-1))));", 3, 13);
        text("cost -(-(-(-((1)))));", 3, 13);
        text("cost ((((((((-1))))))));", 3, 13);
        text("cost --------(1);", 3, 13);
        text("bar " + "not ".repeat(8) + "(1)<2;", 3, 36);
        text("bar " + "not ".repeat(8) + "-1<2;", 3, 36);
        text("bar " + "not ".repeat(8) + "1<-2;", 3, 38);
    }

    private static void openAndClosed() {
        check.says("Terms: ( is open to its ), - to the end of its ONE");
        String eight = "((((((((1))))))))";
        sound("cost " + eight + "+" + eight + "*" + eight + ";");
        sound("cost --------1---------1;");
        sound("cost -1*-1*-1*-1*-1*-1*-1*-1*-1*-1;");
        sound("cost (((((((-1)))))))+(((((((-1-1)))))));");
        sound("cost -(((((((1)))))))-" + eight + ";");
        sound("cost (1)+(2)+(3)+(4)+(5)+(6)+(7)+(8)+(9)+(10);");
        sound("cost ((((((((1-2*3-4))))))));");
        sound("cost " + "(".repeat(6) + "-(1)*(-2)" + ")".repeat(6) + ";");
        text("cost (((((((-(1)))))))));", 3, 13);
        check.says("Terms: not is open to the end of its ASK");
        sound("bar not 1<2 and " + eight + "<2;");
        sound("bar not 1<2 or " + eight + "<2;");
        text("bar not 1<" + eight + ";", 3, 17);
        text("bar not " + eight + "<1;", 3, 15);
        sound("bar not 1<(((((((2)))))));");
        sound("bar " + "not ".repeat(8) + "1<2 and " + "not ".repeat(8) + "1<2;");
        sound("bar " + "not ".repeat(8) + "1<2 or " + "not ".repeat(8) + "1<2;");
        check.says("Terms: nothing is open from one CLAUSE to the next");
        sound("bar " + "not ".repeat(8) + "1<2;bar " + "not ".repeat(8) + "1<2;cost " + eight + ";");
    }

    private static void cutSums() {
        check.says("Terms: what is above 1000000 (below the same less) is that, at each step");
        cost("999*1001", 999999);
        cost("1000*1000", 1000000);
        cost("1000*1001", 1000000);
        cost("9999*9999", 1000000);
        cost("999*1001+1", 1000000);
        cost("999*1001+2", 1000000);
        cost("999*1001+2-1", 999999);
        cost("1000*1000+1-1", 999999);
        cost("1000*1001-1", 999999);
        cost("1000*1001/1001", 999);
        cost("9999*9999*9999*9999", 1000000);
        cost("-999*1001", -999999);
        cost("-1000*1000", -1000000);
        cost("-1000*1001", -1000000);
        cost("1000*-1001", -1000000);
        cost("-1000*1001+1", -999999);
        cost("0-999*1001-1", -1000000);
        cost("0-999*1001-2", -1000000);
        cost("0-999*1001-2+1", -999999);
        cost("-9999*9999*9999", -1000000);
        cost("-9999*9999*-9999", 1000000);
        cost("-(1000*1001)", -1000000);
        cost("--(1000*1001)", 1000000);
        cost("1000*1000-1000*1000*2", 0);
        barred("bar 1000*1001=1000*1000;", 1);
        barred("bar 1000*1001>1000*1000;", 0);
        barred("bar 999*1001<1000*1000;", 1);
        barred("bar 0-1000*1001=0-1000*1000;", 1);
    }

    private static void quotients() {
        check.says("Terms: / cuts towards 0");
        cost("7/7", 1);
        cost("6/7", 0);
        cost("8/7", 1);
        cost("13/7", 1);
        cost("14/7", 2);
        cost("-6/7", 0);
        cost("-7/7", -1);
        cost("-8/7", -1);
        cost("-13/7", -1);
        cost("-14/7", -2);
        cost("7/-2", -3);
        cost("-7/-2", 3);
        cost("-(7/2)", -3);
        check.says("Terms: by 0 it is 0");
        cost("1/0", 0);
        cost("0/0", 0);
        cost("-1/0", 0);
        cost("9999*9999/0", 0);
        cost("5+1/0", 5);
        cost("7/(size-2)", 0);
        cost("7/(size-1)", 7);
        cost("7/(size-3)", -7);
        cost("1/0*5", 0);
        barred("bar 1/0=0;", 1);
        barred("bar 1/0#0;", 0);
        check.says("Terms: from the left");
        cost("100/7/2", 7);
        cost("100/7*7", 98);
        cost("7*100/7", 100);
        cost("10-3-2", 5);
        cost("10-3+2", 9);
        cost("2+3*4", 14);
        cost("2*3+4", 10);
        cost("-2-3", -5);
        cost("-2*-3", 6);
    }

    private static void bothSides() {
        check.says("Terms: < <= > >= = # (unlike), at like ones and at one more and one less");
        String[] signs = {"<", "<=", ">", ">=", "=", "#"};
        int[][] due = {{1, 0, 0}, {1, 1, 0}, {0, 0, 1}, {0, 1, 1}, {0, 1, 0}, {1, 0, 1}};
        for (int i = 0; i < signs.length; i++) {
            for (int left = 0; left < 3; left++) {
                barred("bar " + (left + 4) + signs[i] + "5;", due[i][left]);
                barred("bar not " + (left + 4) + signs[i] + "5;", 1 - due[i][left]);
                barred("bar 0-" + (6 - left) + signs[i] + "-5;", due[i][left]);
            }
        }
        check.says("Terms: or and and look at both sides always");
        String[] truths = {"1=2", "1=1"};
        for (int a = 0; a < 2; a++) {
            for (int b = 0; b < 2; b++) {
                barred("bar " + truths[a] + " or " + truths[b] + ";", a | b);
                barred("bar " + truths[a] + " and " + truths[b] + ";", a & b);
                for (int c = 0; c < 2; c++) {
                    barred("bar " + truths[a] + " or " + truths[b] + " and " + truths[c] + ";", a | b & c);
                    barred("bar " + truths[a] + " and " + truths[b] + " or " + truths[c] + ";", a & b | c);
                    barred("bar not " + truths[a] + " and " + truths[b] + " or not " + truths[c] + ";",
                        1 - a & b | 1 - c);
                }
            }
        }
    }

    private static void clausesOfARule() {
        check.says("Terms: a SET is BARRED by a RULE, if one of its bars is so (the first, the last, none)");
        barred("bar 1=1;bar 1=2;bar 1=2;", 1);
        barred("bar 1=2;bar 1=1;bar 1=2;", 1);
        barred("bar 1=2;bar 1=2;bar 1=1;", 1);
        barred("bar 1=2;bar 1=2;bar 1=2;", 0);
        barred("bar 1=2;".repeat(11) + "bar 1=1;", 1);
        barred("cost 5;", 0);
        check.says("Terms: its COST: cost (without 0)");
        DinnerRounds x = new DinnerRounds(6);
        Check.rule(x, "bar 1=1;");
        Check.rule(x, "bar 1=1;cost 4;bar 2=2;");
        Check.rule(x, "");
        int[] due = {0, 4, 0};
        for (int rule = 0; rule < 3; rule++) {
            x.by(0, rule);
            check.due(x.judged(0, 3, 1), due[rule]);
        }
        check.says("Terms: WORDS at the greatest and the least: six of 99, four SIDES, 15 QUARRELS, MEET 60");
        x = new DinnerRounds(6);
        for (int guest = 0; guest < 6; guest++) {
            x.guest(guest, guest % 4, 99);
            for (int other = 0; other < guest; other++) {
                x.quarrel(guest, other, true);
            }
        }
        for (int i = 0; i < 60; i++) {
            x.table(0, NONE, 48);
        }
        String[] words = {"age", "oldest", "youngest", "sides", "quarrels", "again", "size"};
        int[] most = {594, 99, 99, 4, 15, 60, 6};
        int[] none = {0, 0, 0, 1, 0, 0, 2};
        for (int i = 0; i < words.length; i++) {
            x.image();
            Check.rule(x, "cost " + words[i] + ";");
            x.by(0, 0);
            check.due(x.judged(0, 63, 1), most[i]);
            x.back();
            DinnerRounds y = new DinnerRounds(4);
            Check.rule(y, "cost " + words[i] + ";");
            y.by(2, 0);
            check.due(y.judged(2, 12, 1), none[i]);
        }
    }

    private static void wordsOfEachGuest() {
        check.says("Terms: WORDS, of a SET: any of its GUESTS can be the one who counts, and none beside them");
        String[] words = {"age", "oldest", "youngest", "sides", "quarrels", "again"};
        for (int guest = 0; guest < 6; guest++) {
            for (int i = 0; i < words.length; i++) {
                DinnerRounds x = new DinnerRounds(12);
                for (int other = 0; other < 12; other++) {
                    x.guest(other, other < 6 ? 1 : 2, other < 6 ? 50 : 2 + 97 * (other % 2));
                }
                x.guest(guest, 3, i == 2 ? 49 : 51);
                int next = (guest + 1) % 6;
                x.quarrel(guest, next, true);
                x.quarrel(guest, 6, true);
                x.quarrel(10, 11, true);
                x.table(0, NONE, Check.set(guest, next));
                x.table(0, NONE, Check.set(guest, 7));
                x.table(0, NONE, Check.set(guest, 7));
                Check.rule(x, "cost " + words[i] + ";");
                x.by(0, 0);
                int[] all = {301, 51, 49, 2, 1, 1};
                int[] without = {250, 50, 50, 1, 0, 0};
                check.due(x.judged(0, 63, 1), all[i]);
                check.due(x.judged(0, 63 & ~(1 << guest), 1), without[i]);
            }
        }
        check.says("Terms: all that may wait for its other side, eight open around one another");
        String sum = "1" + "+2*(1".repeat(8) + ")".repeat(8);
        cost(sum, 511);
        barred("bar 1=2 or 1=1 and 511=" + sum + ";", 1);
        barred("bar 1=2 or 1=1 and 510=" + sum + ";", 0);
        barred("bar 1=1 and 1=2 or " + sum + "<512;", 1);
    }

    private static void rulesOfPlans() {
        check.says("15: THE RULE of a PLAN (NONE: none): true; false for others");
        DinnerRounds x = new DinnerRounds(4);
        int[][] none = {{-2, 0}, {-1, 1}, {0, 0}, {1, 0}, {3, 0}, {LEAST, 0}, {MOST, 0}};
        for (int[] r : none) {
            check.due(x.by(0, r[0]), r[1] == 1);
            check.due(x.about(20), NONE);
        }
        for (int rules = 1; rules <= 4; rules++) {
            Check.rule(x, "cost " + rules + ";");
            check.due(x.by(1, rules - 1), true);
            check.due(x.about(21), rules - 1);
            check.due(x.by(1, rules), false);
            check.due(x.about(21), rules - 1);
            check.due(x.judged(1, 3, 1), rules);
        }
        check.due(x.by(1, -2), false);
        check.due(x.about(21), 3);
        check.due(x.by(-1, 0), false);
        check.due(x.by(3, 0), false);
        check.due(x.by(0, 0), true);
        check.due(x.by(2, 1), true);
        check.due(x.about(20), 0);
        check.due(x.about(22), 1);
        check.says("Terms: at first none: none is BARRED, COST 0");
        check.due(x.by(1, NONE), true);
        check.due(x.about(21), NONE);
        check.due(x.judged(1, 3, 1), 0);
        check.due(x.judged(1, 3, 0), 0);
    }

    private static void judgedOthers() {
        check.says("16: a SET (2 to 6 GUESTS) in a PLAN; -10000000 for others");
        DinnerRounds x = new DinnerRounds(12);
        for (int size = 0; size <= 12; size++) {
            int due = size >= 2 && size <= 6 ? 0 : OTHERS;
            check.due(x.judged(0, (1 << size) - 1, 0), due);
            check.due(x.judged(0, (1 << size) - 1 << 12 - size, 1), due);
        }
        DinnerRounds y = new DinnerRounds(6);
        int[] sets = {33, 65, 63, 64, 127, -1, LEAST, LEAST | 3, MOST, 96};
        int[] due = {0, OTHERS, 0, OTHERS, OTHERS, OTHERS, OTHERS, OTHERS, OTHERS, OTHERS};
        for (int i = 0; i < sets.length; i++) {
            check.due(y.judged(0, sets[i], 0), due[i]);
            check.due(y.judged(0, sets[i], 1), due[i]);
        }
        int[][] plans = {{-1, OTHERS}, {0, 0}, {2, 0}, {3, OTHERS}, {LEAST, OTHERS}, {MOST, OTHERS}};
        for (int[] r : plans) {
            check.due(y.judged(r[0], 3, 0), r[1]);
        }
        check.says("16: 0 whether it is BARRED (1, 0), 1 its COST; -10000000 for others");
        Check.rule(y, "bar size=2;cost 8-size*5;");
        y.by(2, 0);
        int[][] whats = {{-1, OTHERS, OTHERS}, {0, 1, 0}, {1, -2, -7}, {2, OTHERS, OTHERS}, {LEAST, OTHERS, OTHERS},
            {MOST, OTHERS, OTHERS}};
        for (int[] r : whats) {
            check.due(y.judged(2, 3, r[0]), r[1]);
            check.due(y.judged(2, 7, r[0]), r[2]);
        }
    }
}
