/** Promises 8 to 11: the days of a siege. */
public final class DaysTest {
    private static final Check check = new Check("DaysTest");
    private static final int NONE = SheepAndStones.NONE;

    public static void main(String[] args) {
        sheep();
        twin();
        beside();
        mending();
        stonesOfDays();
        breach();
        wrong();
        check.end();
    }

    private static void sheep() {
        SheepAndStones x = Check.laid("e5,20,0;e5,60,0;e5,30,0;f0,7;f1,0;");
        int[] due = {20, 13, 6, 0, 0};
        for (int d = 0; d < due.length; d++) {
            check.due("sheep(0, " + d + ")", x.sheep(0, d), due[d]);
        }
        check.due("sheep: none eaten", x.sheep(1, 30), 60);
        check.due("sheep: one each night", x.sheep(2, 29), 1);
        check.due("sheep: none left", x.sheep(2, 30), 0);
        x.give(2, 40);
        check.due("sheep: more given", x.sheep(2, 30), 10);
    }

    private static void row(String what, SheepAndStones x, int c, int... byDay) {
        for (int d = 0; d < byDay.length; d++) {
            int got = c < 0 ? x.rubble(d) : x.cell(c, d);
            check.due(what + (c < 0 ? ": rubble(" : ": cell(" + c + ", ") + d + ")", got, byDay[d]);
        }
    }

    private static void twin() {
        SheepAndStones x = Check.laid("e2,36,2;s0,1,6;f0,0;");
        row("twin at the end", x, 9, 10, 3, 5, 7, 7);
        row("twin at the end", x, -1, 0, 4, 2, 0, 0);
        x = Check.laid("e2,30,2;s0,1,6;m0;");
        row("twin", x, 7, 10, 2, 2);
        row("twin", x, 8, 10, 6, 6);
        row("twin", x, 6, 10, 10);
        row("twin", x, -1, 0, 6, 6);
        x = Check.laid("e2,30,0;s0,1,6;m0;");
        row("plain", x, 7, 10, 2, 2);
        row("plain", x, 8, 10, 10);
        // the half of 5 is cut
        x = Check.laid("e1,8,2;s0,1,2;m0;");
        row("twin, cut", x, 1, 10, 7);
        row("twin, cut", x, 2, 10, 9);
    }

    private static void beside() {
        SheepAndStones x = Check.laid("e1,2,2;s0,1,1;e9,60,2;s1,1,1;w0,1;w9,1;");
        for (int c = 0; c < 10; c++) {
            row("beside", x, c, x.cell(c, 0), x.cell(c, 0), x.cell(c, 0));
        }
        row("beside", x, -1, 0, 0, 0);
        check.due("beside: breach", x.breach(0), NONE);
    }

    private static void mending() {
        // two cells alike: the lowest first; a cell that is weak at first is never mended
        SheepAndStones x = Check.laid("e1,5,0;e1,6,0;s1,1,1;s0,1,1;m1;w0,1;");
        row("of two", x, 2, 10, 8, 8);
        row("of two", x, 3, 10, 7, 8, 8);
        row("of two", x, 0, 1, 1, 1, 1);
        row("of two", x, -1, 0, 1, 0, 0);
        // weight that is left when nothing is weaker stays
        x = Check.laid("e1,60,0;s0,1,20;m9;w0,3;f0,0;");
        row("left over", x, 0, 3, 3, 3);
        row("left over", x, -1, 0, 17, 17);
        // nobody mends
        x = Check.laid("e1,60,0;s0,1,20;m0;w0,12;f0,0;");
        row("no menders", x, 0, 12, 1, 1);
        row("no menders", x, -1, 0, 20, 20);
        // the weight of one cell mends another, the weakest first
        x = Check.laid("e2,60,0;s0,1,20;s0,1,10;w3,30;w9,30;f0,0;m9;");
        // 17 and 19 at first; from 19 on in turns, the lower cell ahead
        row("of two strengths", x, 3, 30, 23, 27, 30, 30);
        row("of two strengths", x, 9, 30, 22, 27, 30, 30);
        row("of two strengths", x, -1, 0, 21, 12, 6, 6);
    }

    private static void stonesOfDays() {
        SheepAndStones x = Check.laid("e1,6,0;s0,30,3;s0,1,1;f0,0;m0;w3,1;");
        row("day 1", x, 3, 1, 0, 0);
        check.due("day 29", x.cell(3, 29), 0);
        check.due("day 30: beside", x.rubble(30), 1);
        x = Check.laid("e1,9,0;s0,30,3;f0,0;m1;");
        check.due("day 29", x.cell(0, 29), 10);
        check.due("day 30", x.cell(0, 30), 8);
        check.due("rubble, day 30", x.rubble(30), 2);
    }

    private static void breaches(String text, int day, int cell) {
        SheepAndStones x = Check.laid(text);
        check.due(text + " day", x.breach(0), day);
        check.due(text + " cell", x.breach(1), cell);
    }

    private static void breach() {
        breaches("e1,5,0;", NONE, NONE);
        breaches("e1,5,0;w5,0;w7,0;", 1, 5);
        breaches("e1,5,0;s0,1,1;", NONE, NONE);
        breaches("e1,5,0;s0,1,1;w2,4;", NONE, NONE);
        breaches("e1,5,0;s0,1,1;w2,3;", 1, 2);
        breaches("e1,5,2;s0,1,1;w2,3;w3,1;", 1, 2);
        breaches("e1,5,2;s0,1,1;w2,4;w3,1;", 1, 3);
        breaches("e1,6,0;e1,5,0;s0,1,1;s1,1,1;w2,1;w3,1;", 1, 2);
        // mended by night, but breached behind the stones all the same; only the first day counts
        breaches("e1,5,0;e1,4,0;s0,2,1;s1,3,1;w2,3;w1,2;m9;f0,0;f1,0;", 2, 2);
        breaches("e1,9,0;s0,30,3;f0,0;w0,3;", 30, 0);
        // one stone is not enough, two of one day are
        breaches("e1,5,0;s0,9,1;s0,9,1;w2,5;f0,0;", 9, 2);
        breaches("e1,5,0;s0,9,1;s0,10,1;w2,5;f0,0;m1;", 10, 2);
        breaches("e1,5,0;s0,9,1;s0,10,1;w2,6;f0,0;m1;", NONE, NONE);
        breaches("e1,5,0;s0,9,1;s0,10,1;w2,6;f0,0;m0;", 10, 2);
    }

    private static void wrong() {
        SheepAndStones x = new SheepAndStones();
        int[] bad = {-1, 31, Integer.MIN_VALUE, Integer.MAX_VALUE};
        for (int d : bad) {
            check.due("sheep(0, " + d + ")", x.sheep(0, d), SheepAndStones.BAD);
            check.due("cell(0, " + d + ")", x.cell(0, d), SheepAndStones.BAD);
            check.due("rubble(" + d + ")", x.rubble(d), SheepAndStones.BAD);
            check.due("breach(" + d + ")", x.breach(d), SheepAndStones.BAD);
        }
        for (int e : new int[] {-1, 1, 3, Integer.MIN_VALUE}) {
            check.due("sheep(" + e + ", 1)", x.sheep(e, 1), SheepAndStones.BAD);
        }
        for (int c : new int[] {-1, 10, Integer.MAX_VALUE}) {
            check.due("cell(" + c + ", 1)", x.cell(c, 1), SheepAndStones.BAD);
        }
        check.due("breach(2)", Check.laid("e1,1,0;").breach(2), SheepAndStones.BAD);
    }
}
