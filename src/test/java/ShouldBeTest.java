/** Promises 12 to 16: orders, ballast, menders, meals and aims. */
public final class ShouldBeTest {
    private static final Check check = new Check("ShouldBeTest");
    private static final int NONE = SheepAndStones.NONE;
    private static final int BAD = SheepAndStones.BAD;

    public static void main(String[] args) {
        order();
        orderAnew();
        ballast();
        hold();
        meal();
        aim();
        wrong();
        check.end();
    }

    private static void ordered(String text, int day, int... weights) {
        SheepAndStones x = Check.laid(text);
        check.due(text + " order(-1)", x.order(-1), day);
        for (int i = 0; i < weights.length; i++) {
            check.due(text + " order(" + i + ")", x.order(i), weights[i]);
        }
        check.due(text + " order behind", x.order(weights.length), BAD);
    }

    private static void order() {
        // weight 2 falls into cell 7 with a blow of 6, weight 4 into cell 2 with a blow of 4
        ordered("e1,20,0;f0,0;s0,1,2;s0,2,4;w2,4;", 1, 4, 2);
        ordered("e1,20,0;f0,0;s0,2,4;s0,1,2;w2,4;", 1, 4, 2);
        ordered("e1,20,0;f0,0;s0,2,2;s0,1,4;w2,4;", 1, 4, 2);
        ordered("e1,20,0;f0,0;s0,1,2;s0,2,4;w7,6;", 1, 2, 4);
        ordered("e1,20,0;f0,0;s0,1,4;s0,2,2;w7,6;w2,4;", 1, 2, 4);
        ordered("e1,20,0;f0,0;s0,1,2;s0,2,4;", NONE, NONE, NONE);
        ordered("e1,20,0;f0,0;s0,1,9;s0,2,4;s0,2,7;w1,0;", 1, 4, 7, 9);
        ordered("e1,20,0;w1,0;", 1);
        ordered("e1,20,0;", NONE);
        // two of weight 4 are needed: both on day 3, the lowest one ahead
        ordered("e1,20,0;f0,0;m0;s0,3,4;s0,1,2;s0,3,4;w2,8;", 3, 2, 4, 4);
        // three by two: with two of them on days 1 and 2 it is earlier than as told
        ordered("e1,20,0;f0,0;m0;s0,1,2;s0,2,4;s0,5,4;w2,8;", 2, 4, 4, 2);
        // menders mend what came too early
        ordered("e1,20,0;f0,0;m4;s0,1,4;s0,2,2;s0,3,4;w2,8;", NONE, NONE, NONE, NONE);
        // the last day counts
        ordered("e1,20,0;f0,0;s0,30,4;w2,4;", 30, 4);
        // three of weight 4, told among others, break 12 together if nobody mends
        ordered("e1,20,0;f0,0;m0;s0,6,4;s0,5,1;s0,4,2;s0,3,4;s0,2,3;s0,1,4;w2,12;", 3, 4, 4, 4, 1, 2, 3);
        // each stone leaves less weight than it breaks: what lies there ends ahead of the mending
        ordered("e1,12,0;f0,0;m9;s0,1,1;s0,2,1;s0,5,2;s0,6,2;w9,60;w3,6;", 2, 2, 2, 1, 1);
        // the strongest blow ahead, then the first order behind it
        ordered("e1,20,0;f0,0;m2;s0,1,1;s0,2,1;s0,3,3;s0,4,3;s0,5,4;s0,6,2;w7,6;w2,60;w3,60;", 1, 2, 1, 1, 3, 3, 4);
        // of one day the order is as told
        ordered("e1,20,0;e1,8,0;f0,0;f1,0;s1,4,4;s0,4,2;w2,4;m0;", 4, 2, 4);
    }

    private static void orderAnew() {
        SheepAndStones x = Check.laid("e1,20,0;f0,0;s0,1,2;s0,2,4;w2,4;");
        check.due("order(0)", x.order(0), 4);
        x.weigh(1, 5);
        check.due("order: no breach with 2 and 5", x.order(-1), NONE);
        check.due("order(0)", x.order(0), NONE);
        x.undo();
        check.due("order: undone", x.order(0), 4);
        x.keep();
        x.give(0, 0);
        check.due("order: no sheep", x.order(-1), NONE);
        x.back();
        check.due("order: back", x.order(-1), 1);
        check.due("order: nothing changes", x.stone(0, 2), 2);
        check.due("order: breach as told", x.breach(0), 2);
    }

    private static void ballast() {
        SheepAndStones x = Check.laid("e1,0,0;f0,0;s0,1,4;w2,4;");
        check.due("ballast(0, 1)", x.ballast(0, 1), 20);
        check.due("ballast(0, 30)", x.ballast(0, 30), 20);
        check.due("ballast: nothing changes", x.engine(0, 1), 0);
        x = Check.laid("e1,7,0;f0,3;s0,2,4;w2,4;");
        check.due("ballast: ahead of the stone", x.ballast(0, 1), NONE);
        check.due("ballast: 3 are eaten", x.ballast(0, 2), 23);
        x = Check.laid("e1,0,0;f0,0;s0,1,20;w0,11;e1,0,0;");
        check.due("ballast: 60", x.ballast(0, 1), 60);
        check.due("ballast: another engine", x.ballast(1, 1), NONE);
        x.give(0, 60);
        check.due("ballast: none needed of another", x.ballast(1, 1), 0);
        x = Check.laid("e1,0,0;f0,0;s0,1,20;w0,12;");
        check.due("ballast: none", x.ballast(0, 30), NONE);
    }

    private static void hold() {
        SheepAndStones x = Check.laid("e1,20,0;f0,0;s0,1,4;s0,2,4;w2,6;m5;");
        check.due("hold(1)", x.hold(1), 0);
        check.due("hold(2)", x.hold(2), 3);
        check.due("hold(30)", x.hold(30), 3);
        check.due("hold: nothing changes", x.count(2), 5);
        x = Check.laid("e1,20,0;f0,0;s0,1,20;s0,2,4;s0,3,4;w2,8;m0;");
        check.due("hold: from the lowest on", x.hold(30), 1);
        x = Check.laid("e1,20,0;w0,0;");
        check.due("hold: none", x.hold(1), NONE);
        x = Check.laid("e1,60,0;f0,0;s0,1,4;s0,2,4;w2,6;m5;");
        check.due("hold: too far", x.hold(2), 0);
        x.give(0, 20);
        check.due("hold: other sheep", x.hold(2), 3);
        x.weigh(1, 2);
        check.due("hold: another weight", x.hold(2), 0);
        x = Check.laid("e1,60,0;f0,0;s0,1,20;s0,2,20;w0,14;");
        check.due("hold: 9", x.hold(30), 9);
        x = Check.laid("e1,60,0;f0,0;s0,1,20;s0,2,20;w0,13;");
        check.due("hold: 10 are too many", x.hold(30), NONE);
    }

    private static void meal() {
        SheepAndStones x = Check.laid("e1,24,0;s0,2,4;w2,4;");
        check.due("meal(0, 1)", x.meal(0, 1), NONE);
        check.due("meal(0, 2)", x.meal(0, 2), 4);
        check.due("meal(0, 30)", x.meal(0, 30), 4);
        check.due("meal: nothing changes", x.engine(0, 3), 1);
        x.give(0, 20);
        check.due("meal: 0", x.meal(0, 2), 0);
        x.give(0, 19);
        check.due("meal: none", x.meal(0, 2), NONE);
        x.give(0, 29);
        check.due("meal: 9", x.meal(0, 2), 9);
        x = Check.laid("e1,24,0;e1,24,0;s0,2,4;w2,4;f0,9;");
        check.due("meal: another engine", x.meal(1, 30), NONE);
        x = Check.laid("e1,24,0;e1,24,0;s0,2,4;w2,4;");
        check.due("meal: nothing hangs on it", x.meal(1, 30), 9);
    }

    private static void aim() {
        SheepAndStones x = new SheepAndStones();
        // 100 by w is 5 from 17 on, 6 from 15 on, 7 from 13 on, then 8, 9, 10, 11 and 12 at 12 to 8
        int[] due = {NONE, NONE, 17, 15, 13, 12, 11, 10, 9, 8};
        for (int c = 0; c < 10; c++) {
            check.due("aim(0, " + c + ")", x.aim(0, c), due[c]);
        }
        check.due("aim: a sheep less", x.aim(1, 6), 10);
        x.give(0, 1);
        check.due("aim: the lowest weight", x.aim(0, 2), 1);
        x.give(0, 16);
        check.due("aim: 80 by 20 is still 4", x.aim(0, 0), NONE);
        check.due("aim: 80 by 20 is still 4", x.aim(0, 1), 17);
        check.due("aim: nothing changes", x.stone(0, 2), 10);
        x = Check.laid("e2,38,0;s0,1,1;");
        check.due("aim: the highest weight", x.aim(0, 0), 20);
        x = Check.laid("e3,21,1;s0,2,4;s0,3,4;r2;f0,0;");
        check.due("aim in rain", x.aim(0, 4), 4);
        check.due("aim in rain", x.aim(0, 0), 8);
        check.due("aim dry", x.aim(1, 4), 8);
        check.due("aim dry", x.aim(1, 0), 16);
        x = Check.laid("e1,40,3;s0,1,1;");
        check.due("aim frozen", x.aim(0, 9), NONE);
        check.due("aim frozen", x.aim(0, 6), 3);
        check.due("aim frozen", x.aim(0, 1), 11);
        check.due("aim frozen", x.aim(0, 0), NONE);
    }

    private static void wrong() {
        SheepAndStones x = new SheepAndStones();
        for (int i : new int[] {-2, 2, 6, Integer.MIN_VALUE, Integer.MAX_VALUE}) {
            check.due("order(" + i + ")", x.order(i), BAD);
            check.due("aim(" + i + ", 0)", x.aim(i, 0), BAD);
        }
        check.due("aim(-1, 0)", x.aim(-1, 0), BAD);
        check.due("aim(0, -1)", x.aim(0, -1), BAD);
        check.due("aim(0, 10)", x.aim(0, 10), BAD);
        for (int d : new int[] {0, -1, 31, Integer.MIN_VALUE, Integer.MAX_VALUE}) {
            check.due("ballast(0, " + d + ")", x.ballast(0, d), BAD);
            check.due("hold(" + d + ")", x.hold(d), BAD);
            check.due("meal(0, " + d + ")", x.meal(0, d), BAD);
        }
        for (int e : new int[] {-1, 1, 3, Integer.MAX_VALUE}) {
            check.due("ballast(" + e + ", 1)", x.ballast(e, 1), BAD);
            check.due("meal(" + e + ", 1)", x.meal(e, 1), BAD);
        }
        // BAD goes ahead of NONE
        x = Check.laid("e1,0,0;s0,1,1;");
        check.due("order(1) without a breach", x.order(1), BAD);
        check.due("order(0) without a breach", x.order(0), NONE);
    }
}
