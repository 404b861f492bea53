/** Sentences of orders, ballast, menders, meals and aims: promises 12 to 16. */
final class ShouldBeSentences {
    private static final int BAD = SheepAndStones.BAD, NONE = SheepAndStones.NONE;
    // weight 2 falls into cell 7 with a blow of 6, 3 into cell 3, 4 into 2, 5 into 1 and 6 into 0, each of 4;
    // 1 and all from 7 on fall beside
    private static final String PLAIN = "e1,20,0;f0,0;";

    private final Sentences s;

    ShouldBeSentences(Sentences s) {
        this.s = s;
    }

    void run() {
        otherOrders();
        breachedFirst();
        firstOfSeveral();
        orderAnswers();
        ballast();
        ballastElse();
        hold();
        meal();
        aim();
        daysRefused();
    }

    private void order(String text, int day, int... weights) {
        SheepAndStones x = Check.laid(text);
        s.due("order(-1) of " + text, x.order(-1), day);
        for (int i = 0; i < weights.length; i++) {
            s.due("order(" + i + ") of " + text, x.order(i), weights[i]);
        }
        s.due("order(" + weights.length + ") of " + text, x.order(weights.length), BAD);
        s.due("order(-2) of " + text, x.order(-2), BAD);
    }

    private void otherOrders() {
        s.of(12, "ORDER: the STONES' weights can be thrown in another order (the i-th thrown, by day, then as told, is"
            + " then of another weight):");
        order(PLAIN + "s0,3,2;s0,9,4;w2,4;", 3, 4, 2);
        // told the other way round: thrown by day
        order(PLAIN + "s0,9,2;s0,3,4;w2,4;", 3, 4, 2);
        order(PLAIN + "s0,9,4;s0,3,2;w2,4;", 3, 4, 2);
        // of one day, as told: the second of its engines throws far enough
        order("e1,8,0;" + "e1,20,0;f0,0;f1,0;s0,4,4;s1,4,2;w2,4;m0;", 4, 2, 4);
        order("e1,8,0;" + "e1,20,0;f0,0;f1,0;s1,4,2;s0,4,4;w2,4;m0;", 4, 4, 2);
        // a weight that no STONE has is not thrown
        order(PLAIN + "s0,3,2;s0,9,3;w2,4;", NONE, NONE, NONE);
        order(PLAIN + "s0,30,4;w2,4;", 30, 4);
    }

    private void breachedFirst() {
        s.of(12, "of all orders of weights that by which the WALL is BREACHED first,");
        order(PLAIN + "s0,1,20;s0,2,19;s0,3,18;s0,4,17;s0,5,16;s0,6,4;w2,4;", 1, 4, 16, 17, 18, 19, 20);
        // two of weight 4 are needed: on days 1 and 2
        order(PLAIN + "m0;s0,1,20;s0,2,19;s0,3,4;s0,4,17;s0,5,16;s0,6,4;w2,8;", 2, 4, 4, 16, 17, 19, 20);
        // all six are needed, if nobody mends
        order(PLAIN + "m0;" + "s0,9,4;".repeat(6) + "w2,24;", 9, 4, 4, 4, 4, 4, 4);
        order(PLAIN + "m0;" + "s0,9,4;".repeat(6) + "w2,25;", NONE, NONE, NONE, NONE, NONE, NONE, NONE);
        menders();
        // as it is, it is breached later
        SheepAndStones x = Check.laid(PLAIN + "s0,3,2;s0,9,4;w2,4;");
        s.due("breach(0) as it is", x.breach(0), 9);
        s.due("order(-1)", x.order(-1), 3);
        s.due("breach(0): nothing changes", x.breach(0), 9);
        s.due("stone(0, 2): nothing changes", x.stone(0, 2), 2);
        // SHEEP are eaten: weight 4 falls into cell 2 on day 1, weight 3 on day 4
        order("e1,20,0;s0,1,9;s0,4,4;s0,4,3;w2,4;", 1, 4, 3, 9);
        order("e1,20,0;s0,2,9;s0,4,4;s0,4,3;w2,4;", 4, 4, 3, 9);
    }

    private void menders() {
        // two of weight 4 break 8; one night between them mends 1
        order(PLAIN + "m1;s0,1,9;s0,2,4;s0,3,4;w2,7;", 2, 4, 4, 9);
        order(PLAIN + "m1;s0,1,9;s0,2,4;s0,3,4;w2,8;", NONE, NONE, NONE, NONE);
        order(PLAIN + "m1;s0,1,9;s0,3,4;s0,3,4;w2,8;", 3, 9, 4, 4);
        // two nights mend 2
        order(PLAIN + "m1;s0,1,4;s0,3,9;s0,4,4;w2,6;", 3, 4, 4, 9);
        order(PLAIN + "m1;s0,1,4;s0,3,9;s0,4,4;w2,7;", 4, 9, 4, 4);
        order(PLAIN + "m1;s0,1,4;s0,3,9;s0,5,4;w2,7;", NONE, NONE, NONE, NONE);
        // weight 2 breaks 6 and mends no more than 2, that of weight 3 in cell 3 mends cell 7, too
        order(PLAIN + "m9;s0,1,2;s0,9,2;w7,10;", 9, 2, 2);
        order(PLAIN + "m9;s0,1,2;s0,9,2;w7,11;", NONE, NONE, NONE);
        order(PLAIN + "m9;s0,1,2;s0,1,3;s0,9,2;w7,7;w3,13;", 1, 2, 2, 3);
        order(PLAIN + "m9;s0,1,2;s0,5,3;s0,9,2;w7,10;w3,13;", 5, 2, 2, 3);
        order(PLAIN + "m9;s0,1,3;s0,1,2;s0,9,2;w7,11;w3,13;", 1, 2, 2, 3);
        // what is left of weight 20 in cell 0 mends cell 9 two nights later
        order("e1,60,0;e1,12,0;f0,0;f1,0;m9;s0,1,20;s1,2,1;s1,3,1;w0,60;w9,11;", NONE, NONE, NONE, NONE);
        order("e1,60,0;e1,12,0;f0,0;f1,0;m0;s0,1,20;s1,2,1;s1,3,1;w0,60;w9,11;", 3, 20, 1, 1);
    }

    private void firstOfSeveral() {
        s.of(12, "of several the first (by weights: the first STONE's lowest, then the second's, ..):");
        order(PLAIN + "s0,5,4;s0,5,3;s0,5,2;w2,4;", 5, 2, 3, 4);
        order(PLAIN + "s0,5,9;s0,6,4;s0,6,3;s0,7,7;w2,4;", 5, 4, 3, 7, 9);
        order(PLAIN + "s0,5,9;s0,6,4;s0,6,3;s0,7,7;w2,4;w3,4;", 5, 3, 4, 7, 9);
        order(PLAIN + "s0,5,9;s0,6,4;s0,6,4;s0,7,4;w2,4;", 5, 4, 4, 4, 9);
        // breached in any order
        order(PLAIN + "s0,5,20;s0,4,1;s0,3,20;s0,3,7;w9,0;", 1, 1, 7, 20, 20);
        order(PLAIN + "s0,6,6;s0,5,5;s0,4,4;s0,3,3;s0,2,2;s0,1,1;w9,0;", 1, 1, 2, 3, 4, 5, 6);
    }

    private void orderAnswers() {
        s.of(12, "the day; the weight of the i-th; none.");
        order(PLAIN + "s0,1,2;s0,2,4;", NONE, NONE, NONE);
        order(PLAIN, NONE);
        order(PLAIN + "w0,0;", 1);
        s.of(12, "ORDER: the day (i = -1), the weight of the i-th STONE thrown. NONE; BAD.");
        for (String text : new String[] {PLAIN, PLAIN + "s0,1,4;", PLAIN + "s0,1,4;w2,4;"}) {
            SheepAndStones x = Check.laid(text);
            for (int i : new int[] {-2, 1, 6, 7, Integer.MIN_VALUE, Integer.MAX_VALUE}) {
                s.due("order(" + i + ") of " + text + " (BAD ahead of NONE)", x.order(i), BAD);
            }
        }
        SheepAndStones x = Check.laid(PLAIN + "s0,1,4;s0,2,9;w2,4;");
        s.due("order(0)", x.order(0), 4);
        x.weigh(1, 3);
        s.due("order(1) of another weight", x.order(1), 3);
        x.weigh(0, 2);
        s.due("order(-1) of another weight", x.order(-1), NONE);
        x.undo();
        s.due("order(-1) undone", x.order(-1), 1);
        x.keep();
        x.give(0, 19);
        s.due("order(-1) of other SHEEP: BLOW and cell as they were", x.order(-1), NONE);
        x.back();
        s.due("order(-1) as kept", x.order(-1), 1);
        x.lay();
        s.due("order(1) as laid", x.order(1), 9);
    }

    private void ballast() {
        s.of(13, "BALLAST for an ENGINE: the least S (0 to 60) by which the WALL is BREACHED on day d or ahead of it,");
        // 60 sheep carry weight 20 into cell 0, 59 do not
        SheepAndStones x = Check.laid("e1,7,0;f0,0;s0,5,20;w0,11;");
        s.due("ballast(0, 30): 60", x.ballast(0, 30), 60);
        s.due("ballast(0, 5): the day itself", x.ballast(0, 5), 60);
        s.due("ballast(0, 4): a day too early", x.ballast(0, 4), NONE);
        x = Check.laid("e1,7,0;f0,0;s0,5,20;w0,12;");
        s.due("ballast(0, 30): none", x.ballast(0, 30), NONE);
        x = Check.laid("e1,7,0;f0,1;s0,2,20;w0,11;");
        s.due("ballast(0, 30): one is eaten", x.ballast(0, 30), NONE);
        x = Check.laid("e1,7,3;s0,1,1;w0,2;");
        s.due("ballast(0, 1): 0", x.ballast(0, 1), 0);
        x = Check.laid("e1,7,0;w5,0;");
        s.due("ballast(0, 1) of a breach at first: 0", x.ballast(0, 1), 0);
        // 12 to 15 sheep carry weight 4 into cell 0, 20 to 23 into cell 2: the least
        x = Check.laid("e1,7,0;f0,0;s0,1,4;w0,3;w2,4;");
        s.due("ballast(0, 1): the least", x.ballast(0, 1), 12);
        x = Check.laid("e1,7,0;f0,0;s0,1,4;w0,4;w2,4;");
        s.due("ballast(0, 1): not by fewer", x.ballast(0, 1), 20);
        x = Check.laid("e1,7,1;f0,0;s0,1,4;w2,4;r1;");
        s.due("ballast(0, 1) in rain", x.ballast(0, 1), 40);
    }

    private void ballastElse() {
        s.of(13, "all else as it is; none.");
        SheepAndStones x = Check.laid("e1,0,0;e1,0,0;f0,0;f1,0;s0,1,4;s1,2,4;w2,8;m0;");
        s.due("ballast(0, 30): one alone breaks 4", x.ballast(0, 30), NONE);
        x.give(1, 20);
        s.due("ballast(0, 30): the other as it is", x.ballast(0, 30), 20);
        s.due("ballast(1, 30): the other as it is", x.ballast(1, 30), NONE);
        x.weigh(0, 5);
        s.due("ballast(0, 30): its weight as it is", x.ballast(0, 30), 25);
        s.due("engine(0, 1): nothing changes", x.engine(0, 1), 0);
        s.due("engine(1, 1): nothing changes", x.engine(1, 1), 20);
        s.due("count(4): nothing changes", x.count(4), 2);
        s.of(13, "BALLAST. NONE; BAD (d 1 to 30).");
        s.due("ballast(0, 0)", x.ballast(0, 0), BAD);
        s.due("ballast(0, 31)", x.ballast(0, 31), BAD);
        s.due("ballast(-1, 1)", x.ballast(-1, 1), BAD);
        s.due("ballast(2, 1)", x.ballast(2, 1), BAD);
        s.due("ballast(1, 1)", x.ballast(1, 1), NONE);
    }

    private void hold() {
        s.of(14, "HOLD: the least B (0 to 9) by which it is not BREACHED on day d or ahead of it; none.");
        // two blows of 11: of 12 to 22, 11 at least must be left behind the night
        for (int h = 11; h <= 23; h++) {
            SheepAndStones x = Check.laid("e1,60,0;f0,0;m5;s0,4,20;s0,5,20;w0," + h + ";");
            int due = h == 23 ? 0 : h < 14 ? NONE : 23 - h;
            s.due("hold(30) of " + h, x.hold(30), due);
            s.due("hold(5) of " + h + ": the day itself", x.hold(5), due);
            s.due("hold(4) of " + h + ": the day ahead", x.hold(4), h == 11 ? NONE : 0);
            s.due("hold(3) of " + h + ": ahead of all", x.hold(3), 0);
            s.due("count(2): nothing changes", x.count(2), 5);
        }
        SheepAndStones x = Check.laid("e1,60,0;w9,0;");
        s.due("hold(1) of a breach at first", x.hold(1), NONE);
        s.of(14, "HOLD. NONE; BAD (d 1 to 30).");
        for (int d : new int[] {0, 31, -1, Integer.MIN_VALUE, Integer.MAX_VALUE}) {
            s.due("hold(" + d + "): BAD ahead of NONE", x.hold(d), BAD);
        }
        s.due("hold(30)", x.hold(30), NONE);
    }

    private void meal() {
        s.of(15, "MEAL for an ENGINE: the greatest N (0 to 9) by which it is BREACHED on day d or ahead of it; none.");
        // weight 4 falls into cell 2 by 20 to 23 sheep: behind three nights 3 N less
        int[][] due = {{19, NONE}, {20, 0}, {22, 0}, {23, 1}, {25, 1}, {26, 2}, {47, 9}, {50, 9}, {51, NONE}, {60, NONE}};
        for (int[] d : due) {
            SheepAndStones x = Check.laid("e1," + d[0] + ",0;f0,7;s0,4,4;w2,4;");
            s.due("meal(0, 30) of " + d[0], x.meal(0, 30), d[1]);
            s.due("meal(0, 4) of " + d[0] + ": the day itself", x.meal(0, 4), d[1]);
            s.due("meal(0, 3) of " + d[0] + ": a day too early", x.meal(0, 3), NONE);
            s.due("engine(0, 3): nothing changes", x.engine(0, 3), 7);
        }
        SheepAndStones x = Check.laid("e1,20,0;e1,20,0;f0,0;f1,9;s0,1,4;s1,3,4;w2,8;m0;");
        s.due("meal(1, 30): the other as it is", x.meal(1, 30), 0);
        s.due("meal(0, 30): the other as it is", x.meal(0, 30), NONE);
        s.of(15, "MEAL. NONE; BAD (d 1 to 30).");
        int[][] bad = {{0, 0}, {0, 31}, {-1, 1}, {2, 1}, {0, Integer.MIN_VALUE}, {0, Integer.MAX_VALUE}};
        for (int[] b : bad) {
            s.due("meal(" + b[0] + ", " + b[1] + "): BAD ahead of NONE", x.meal(b[0], b[1]), BAD);
        }
        s.due("meal(0, 1)", x.meal(0, 1), NONE);
    }

    private void aim() {
        s.of(16, "AIM for STONE i: the lowest weight (1 to 20) by which it falls into cell c, by the SHEEP and rain of"
            + " its day; none.");
        // a pull of 60 by 1, 2, ..: 60, 30, 20, 15, 12, 10, 8, 7, 6, 6, 5, 5, 4, .. and by 20: 3
        SheepAndStones x = Check.laid("e1,60,0;s0,1,7;s0,2,7;s0,29,1;");
        int[] due = {16, 13, 11, 9, 8, 7, NONE, 6, NONE, 5};
        for (int c = 0; c < 10; c++) {
            s.due("aim(0, " + c + ")", x.aim(0, c), due[c]);
        }
        s.due("aim(1, 0) by 59 sheep", x.aim(1, 0), 15);
        s.due("aim(2, 9) by 32 sheep", x.aim(2, 9), NONE);
        s.due("aim(2, 7) by 32 sheep", x.aim(2, 7), 3);
        s.due("stone(0, 2): nothing changes", x.stone(0, 2), 7);
        x.give(0, 12);
        s.due("aim(0, 9) by 12 sheep: 1", x.aim(0, 9), 1);
        x = Check.laid("e4,15,0;s0,1,1;");
        s.due("aim(0, 0) by 60", x.aim(0, 0), 16);
        x = Check.laid("e7,11,0;s0,1,1;");
        s.due("aim(0, 0) by 77: 20", x.aim(0, 0), 20);
        x = Check.laid("e8,10,0;s0,1,1;");
        s.due("aim(0, 0) by 80: 21 are too many", x.aim(0, 0), NONE);
        x = Check.laid("e2,60,1;f0,0;s0,8,1;s0,9,1;r8;");
        s.due("aim(0, 9) in rain", x.aim(0, 9), 5);
        s.due("aim(1, 9) when dry", x.aim(1, 9), 10);
        x = Check.laid("e1,0,3;s0,1,20;");
        s.due("aim(0, 0) of a frozen one", x.aim(0, 0), 1);
        s.due("aim(0, 1) of a frozen one", x.aim(0, 1), NONE);
        s.of(16, "AIM. NONE; BAD.");
        int[][] bad = {{-1, 0}, {1, 0}, {0, -1}, {0, 10}, {1, 1}, {Integer.MIN_VALUE, 1}, {Integer.MAX_VALUE, 1},
            {0, Integer.MIN_VALUE}, {0, Integer.MAX_VALUE}};
        for (int[] b : bad) {
            s.due("aim(" + b[0] + ", " + b[1] + "): BAD ahead of NONE", x.aim(b[0], b[1]), BAD);
        }
    }

    private void daysRefused() {
        s.of(13, "(d 1 to 30)");
        // a breach on day 1 at first: any d from 1 on has it
        SheepAndStones x = Check.laid("e1,1,0;w0,0;");
        for (int d = -1; d <= 32; d++) {
            boolean so = d >= 1 && d <= 30;
            s.of(13, "BAD (d 1 to 30)");
            s.due("ballast(0, " + d + ")", x.ballast(0, d), so ? 0 : BAD);
            s.of(14, "BAD (d 1 to 30)");
            s.due("hold(" + d + ")", x.hold(d), so ? NONE : BAD);
            s.of(15, "BAD (d 1 to 30)");
            s.due("meal(0, " + d + ")", x.meal(0, d), so ? 9 : BAD);
        }
    }
}
