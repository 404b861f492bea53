/** Promises 17 to 20: craters, odds and years. */
public final class CratersTest {
    private static final Check check = new Check("CratersTest");
    private static final int NONE = SheepAndStones.NONE;
    private static final int BAD = SheepAndStones.BAD;

    public static void main(String[] args) {
        crater();
        odds();
        oddsWrong();
        year();
        check.end();
    }

    private static void crater() {
        SheepAndStones x = Check.laid("e2,0,0;e2,5,1;e2,9,3;r1;s0,1,3;");
        check.due("crater(10, 0)", x.crater(10, 0), 7);
        check.due("least(0, 10, 0)", x.least(0, 10, 0), 15);
        check.due("least of a damp one on a dry day", x.least(1, 10, 0), 15);
        check.due("least of a frozen one", x.least(2, 10, 0), 0);
        check.due("crater(10, 9)", x.crater(10, 9), 3);
        check.due("least(0, 10, 9)", x.least(0, 10, 9), 60);
        check.due("least(2, 10, 9)", x.least(2, 10, 9), NONE);
        check.due("crater(20, 9)", x.crater(20, 9), 0);
        check.due("crater(20, 1)", x.crater(20, 1), 7);
        check.due("least(2, 20, 1)", x.least(2, 20, 1), 20);
        check.due("crater(20, 4)", x.crater(20, 4), 0);
        check.due("crater(20, 3)", x.crater(20, 3), 7);
        check.due("least(0, 20, 3)", x.least(0, 20, 3), 60);
        check.due("crater: nothing changes", x.engine(0, 1), 0);
        check.due("crater: given sheep do not matter", x.give(0, 1), 0);
        check.due("crater(10, 9)", x.crater(10, 9), 3);
        x = Check.laid("e9,1,0;e9,1,2;");
        check.due("crater(1, 3)", x.crater(1, 3), 0);
        check.due("least(0, 1, 3)", x.least(0, 1, 3), NONE);
        check.due("crater(1, 6)", x.crater(1, 6), 3);
        check.due("least(1, 1, 6)", x.least(1, 1, 6), 1);
        int[][] bad = {{0, 0}, {21, 0}, {-1, 0}, {1, -1}, {1, 10}, {Integer.MIN_VALUE, 0}, {1, Integer.MAX_VALUE}};
        for (int[] call : bad) {
            check.due("crater(" + call[0] + ", " + call[1] + ")", x.crater(call[0], call[1]), BAD);
            check.due("least(0, " + call[0] + ", " + call[1] + ")", x.least(0, call[0], call[1]), BAD);
        }
        check.due("least(2, 1, 6)", x.least(2, 1, 6), BAD);
        check.due("least(-1, 1, 6)", x.least(-1, 1, 6), BAD);
        check.due("crater(20, 9) of 1..20", x.crater(20, 9), 3);
    }

    private static void odds(int h, int b, int x, int n, long above, long below) {
        SheepAndStones o = new SheepAndStones();
        String call = "odds(" + h + ", " + b + ", " + x + ", " + n;
        check.due(call + ", 0)", o.odds(h, b, x, n, 0), above);
        check.due(call + ", 1)", o.odds(h, b, x, n, 1), below);
    }

    private static void odds() {
        odds(1, 1, 3, 1, 3, 10);
        odds(1, 1, 5, 1, 1, 2);
        odds(1, 1, 5, 0, 0, 1);
        odds(1, 1, 0, 9, 0, 1);
        odds(1, 20, 10, 1, 1, 1);
        odds(40, 20, 10, 1, 0, 1);
        odds(40, 20, 10, 2, 1, 1);
        odds(3, 2, 4, 2, 4, 25);
        odds(3, 2, 4, 3, 44, 125);
        // misses at full strength and misses up to it meet: 2, 1, 2 and 2, 2, 2
        odds(2, 1, 5, 4, 1, 2);
        // strength grows no further than at first
        odds(1, 1, 1, 2, 19, 100);
        // 1 less 0.9 to the ninth
        odds(1, 1, 1, 9, 612579511L, 1000000000L);
        odds(9, 1, 1, 9, 1, 1000000000L);
        odds(9, 1, 1, 8, 0, 1);
        odds(10, 1, 9, 9, 0, 1);
        odds(40, 20, 10, 9, 1, 1);
    }

    private static void oddsWrong() {
        SheepAndStones o = new SheepAndStones();
        int[][] bad = {{0, 1, 1, 1, 0}, {41, 1, 1, 1, 0}, {1, 0, 1, 1, 0}, {1, 21, 1, 1, 0}, {1, 1, -1, 1, 0},
            {1, 1, 11, 1, 0}, {1, 1, 1, -1, 0}, {1, 1, 1, 10, 0}, {1, 1, 1, 1, -1}, {1, 1, 1, 1, 2},
            {Integer.MIN_VALUE, 1, 1, 1, 0}, {1, Integer.MAX_VALUE, 1, 1, 0}, {1, 1, 1, Integer.MAX_VALUE, 0}};
        for (int[] a : bad) {
            check.due("odds(" + java.util.Arrays.toString(a) + ")", o.odds(a[0], a[1], a[2], a[3], a[4]), BAD);
        }
    }

    private static void year() {
        SheepAndStones x = new SheepAndStones();
        check.due("year(0, 0)", x.year(0, 0), NONE);
        check.due("year(0, 1)", x.year(0, 1), 99);
        check.due("year(1, 0)", x.year(1, 0), NONE);
        check.due("year(1, 1)", x.year(1, 1), 100);
        // the draws of z = 0 are 2 and 8; here 8 falls on day 2 into cell 8 with a blow of 9
        x = Check.laid("e5,20,0;s0,1,10;s0,2,10;w8,9;m0;");
        check.due("year(0, 0)", x.year(0, 0), 2);
        check.due("year(0, 1)", x.year(0, 1), 90);
        check.due("year: nothing changes", x.stone(0, 2), 10);
        check.due("year: nothing changes", x.breach(0), 1);
        // by the stones as told, not as thrown: stone 1 is thrown first
        x = Check.laid("e5,20,0;s0,2,10;s0,1,10;w9,10;m0;f0,0;");
        check.due("year(0, 0)", x.year(0, 0), 1);
        x = Check.laid("e5,20,0;s0,1,10;s0,2,10;w9,10;m0;f0,0;");
        check.due("year(0, 0)", x.year(0, 0), 2);
        x.give(0, 1);
        check.due("year: other sheep", x.year(0, 0), NONE);
        check.due("year(9999, 0)", x.year(9999, 0), NONE);
        check.due("year(9999, 1)", x.year(9999, 1), 100);
        int[][] bad = {{-1, 0}, {10000, 0}, {0, -1}, {0, 2}, {Integer.MIN_VALUE, 0}, {Integer.MAX_VALUE, 1}};
        for (int[] call : bad) {
            check.due("year(" + call[0] + ", " + call[1] + ")", x.year(call[0], call[1]), BAD);
        }
    }
}
