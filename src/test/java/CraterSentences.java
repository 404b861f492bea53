/** Sentences of craters, odds and years: promises 17 to 20. */
final class CraterSentences {
    private static final int BAD = SheepAndStones.BAD, NONE = SheepAndStones.NONE;

    private final Sentences s;

    CraterSentences(Sentences s) {
        this.s = s;
    }

    void run() {
        crater();
        craterBits();
        least();
        leastBounds();
        odds();
        oddsBounds();
        oddsTerms();
        yearDraws();
        yearAnswers();
        yearBounds();
    }

    private void crater() {
        s.of(17, "CRATER: a STONE of weight w fell into cell c, the day was dry:");
        // a damp one by a pull of 12, which rain would halve
        SheepAndStones x = Check.laid("e1,0,1;r1;r2;s0,1,1;");
        s.due("crater(1, 9) of a damp one", x.crater(1, 9), 1);
        s.due("least(0, 1, 9) of a damp one", x.least(0, 1, 9), 12);
        s.due("crater(20, 0) of a damp one", x.crater(20, 0), 1);
        s.due("least(0, 20, 0) of a damp one", x.least(0, 20, 0), 60);
        s.due("crater(20, 1) of a damp one", x.crater(20, 1), 0);
        x.give(0, 60);
        s.due("crater(20, 1): by some S, not by its own", x.crater(20, 1), 0);
        s.due("least(0, 1, 9): by some S, not by its own", x.least(0, 1, 9), 12);
        // a TWIN ENGINE's stone falls into one cell: 60 by 20 into 0, never into 1
        x = Check.laid("e1,0,2;");
        s.due("crater(20, 0) of a TWIN ENGINE", x.crater(20, 0), 1);
        s.due("crater(20, 1) of a TWIN ENGINE", x.crater(20, 1), 0);
    }

    private void craterBits() {
        s.of(17, "the ENGINES (bits) that could throw it so with some S from 0 to 60;");
        // weight 20 flies 3 at most by ARM 1, 6 by ARM 2, 27 by ARM 9; a frozen one of ARM 1 from 3 to 4
        SheepAndStones x = Check.laid("e1,0,0;e2,0,0;e9,0,0;");
        int[] due = {7, 6, 6, 6, 4, 4, 4, 4, 4, 4};
        for (int c = 0; c < 10; c++) {
            s.due("crater(20, " + c + ")", x.crater(20, c), due[c]);
        }
        s.due("crater(1, 0): 3 by ARM 1 alone", x.crater(1, 0), 1);
        s.due("crater(1, 1): 4 by 1 and 2", x.crater(1, 1), 3);
        s.due("crater(1, 6): 9 by 1 and 9", x.crater(1, 6), 5);
        s.due("crater(1, 7): 10 by 1 and 2", x.crater(1, 7), 3);
        x = Check.laid("e9,60,0;e1,0,3;");
        s.due("crater(20, 0)", x.crater(20, 0), 3);
        s.due("crater(20, 1)", x.crater(20, 1), 3);
        s.due("crater(20, 2)", x.crater(20, 2), 1);
        s.due("crater(1, 3)", x.crater(1, 3), 2);
        s.due("crater(1, 6)", x.crater(1, 6), 3);
        x = Check.laid("e9,60,0;");
        s.due("crater(1, 9): none of them", x.crater(1, 9), 0);
        s.of(17, "CRATER: the ENGINES, as bits. BAD (w 1 to 20).");
        int[][] bad = {{0, 0}, {21, 0}, {1, -1}, {1, 10}, {-1, 0}, {Integer.MIN_VALUE, 0}, {Integer.MAX_VALUE, 0},
            {1, Integer.MIN_VALUE}, {1, Integer.MAX_VALUE}, {0, 10}};
        for (int[] b : bad) {
            s.due("crater(" + b[0] + ", " + b[1] + ")", x.crater(b[0], b[1]), BAD);
        }
        s.due("crater(1, 6)", x.crater(1, 6), 1);
        s.due("crater(20, 9)", x.crater(20, 9), 1);
    }

    private void least() {
        s.of(18, "the least S by which ENGINE e could; none.");
        SheepAndStones x = Check.laid("e1,60,0;e9,5,3;e3,0,2;");
        int[][] due = {{0, 20, 0, 60}, {0, 20, 1, NONE}, {0, 19, 0, 57}, {0, 1, 0, 3}, {0, 1, 9, 12}, {0, 5, 9, 60},
            {0, 6, 9, NONE}, {1, 20, 0, 0}, {1, 1, 0, 0}, {1, 20, 9, 40}, {1, 1, 1, NONE}, {1, 1, 4, 1}, {1, 20, 1, 5},
            {2, 1, 0, 1}, {2, 1, 1, NONE}, {2, 20, 6, 60}, {2, 20, 7, NONE}, {2, 2, 0, 2}};
        for (int[] d : due) {
            s.due("least(" + d[0] + ", " + d[1] + ", " + d[2] + ")", x.least(d[0], d[1], d[2]), d[3]);
        }
        s.due("engine(0, 1): nothing changes", x.engine(0, 1), 60);
    }

    private void leastBounds() {
        s.of(18, "The least S of an ENGINE for a CRATER. NONE; BAD.");
        SheepAndStones x = Check.laid("e9,0,0;e9,0,0;");
        int[][] bad = {{-1, 1, 9}, {2, 1, 9}, {0, 0, 9}, {0, 21, 9}, {0, 1, -1}, {0, 1, 10}, {Integer.MIN_VALUE, 1, 9},
            {Integer.MAX_VALUE, 1, 9}, {0, Integer.MIN_VALUE, 9}, {0, Integer.MAX_VALUE, 9}, {0, 1, Integer.MIN_VALUE},
            {0, 1, Integer.MAX_VALUE}};
        for (int[] b : bad) {
            s.due("least(" + b[0] + ", " + b[1] + ", " + b[2] + "): BAD ahead of NONE", x.least(b[0], b[1], b[2]), BAD);
        }
        s.due("least(0, 1, 9)", x.least(0, 1, 9), NONE);
        s.due("least(1, 1, 9)", x.least(1, 1, 9), NONE);
        s.due("least(1, 20, 9)", x.least(1, 20, 9), 27);
    }

    private void odds(int h, int b, int x, int n, long above, long below) {
        SheepAndStones o = new SheepAndStones();
        String call = "odds(" + h + ", " + b + ", " + x + ", " + n;
        s.due(call + ", 0)", o.odds(h, b, x, n, 0), above);
        s.due(call + ", 1)", o.odds(h, b, x, n, 1), below);
    }

    private void odds() {
        s.of(19, "ODDS: each day, by the chance of x (0 to 10) of ten, a cell gets a BLOW of b (1 to 20),");
        odds(1, 1, 0, 9, 0, 1);
        odds(1, 1, 1, 1, 1, 10);
        odds(1, 1, 9, 1, 9, 10);
        odds(1, 1, 10, 1, 1, 1);
        odds(2, 1, 10, 1, 0, 1);
        odds(2, 2, 10, 1, 1, 1);
        odds(20, 20, 3, 1, 3, 10);
        odds(21, 20, 3, 1, 0, 1);
        odds(21, 20, 3, 2, 9, 100);
        odds(1, 20, 3, 1, 3, 10);
        s.of(19, "else it is mended by 1, its strength h (1 to 40) at most:");
        // hit, miss, hit is no breach of 2 by 1; miss, hit, hit is, for a miss leaves 2 as it is
        odds(2, 1, 5, 3, 3, 8);
        odds(2, 1, 5, 4, 1, 2);
        odds(3, 2, 5, 2, 1, 4);
        // of 3 by 2: hit, miss, hit is a breach (3, 1, 2, 0), hit, miss, miss, hit is none
        odds(3, 2, 5, 3, 1, 2);
        odds(3, 2, 5, 4, 5, 8);
        odds(40, 20, 10, 1, 0, 1);
        odds(40, 20, 10, 2, 1, 1);
        odds(40, 20, 5, 2, 1, 4);
        // hit, miss, hit leaves 1 of 40; miss, hit, hit leaves none
        odds(40, 20, 5, 3, 3, 8);
        odds(40, 5, 10, 8, 1, 1);
        odds(40, 5, 10, 7, 0, 1);
    }

    private void oddsBounds() {
        s.of(19, "ODDS: above (part = 0), below (1). BAD.");
        int[][] range = {{1, 40}, {1, 20}, {0, 10}, {0, 9}, {0, 1}};
        SheepAndStones o = new SheepAndStones();
        for (int k = 0; k < range.length; k++) {
            for (int wrong : new int[] {range[k][0] - 1, range[k][1] + 1, Integer.MIN_VALUE, Integer.MAX_VALUE}) {
                for (int side = 0; side < 2; side++) {
                    int[] a = {range[0][side], range[1][side], range[2][side], range[3][side], range[4][side]};
                    a[k] = wrong;
                    s.due("odds(" + java.util.Arrays.toString(a) + ")", o.odds(a[0], a[1], a[2], a[3], a[4]), BAD);
                }
            }
        }
    }

    private void oddsTerms() {
        s.of(19, "the chance that it has been BREACHED within n days (0 to 9), in lowest terms.");
        odds(1, 1, 10, 0, 0, 1);
        odds(1, 1, 5, 1, 1, 2);
        odds(1, 1, 2, 1, 1, 5);
        odds(1, 1, 4, 1, 2, 5);
        odds(1, 1, 8, 1, 4, 5);
        odds(1, 1, 3, 1, 3, 10);
        // once breached it has been, though it is mended
        odds(1, 1, 5, 2, 3, 4);
        odds(1, 1, 5, 9, 511, 512);
        odds(1, 1, 1, 9, 612579511L, 1000000000L);
        odds(1, 1, 9, 9, 999999999L, 1000000000L);
        odds(9, 1, 1, 9, 1, 1000000000L);
        odds(9, 1, 5, 9, 1, 512);
        odds(9, 1, 2, 9, 1, 1953125);
        odds(9, 1, 1, 8, 0, 1);
        odds(10, 1, 9, 9, 0, 1);
        odds(1, 20, 10, 9, 1, 1);
    }

    /** Lays a siege in which stone i alone falls into the wall, and tells its strength behind day 30. */
    private static int strong(int i, int w, int sheep, int z) {
        StringBuilder b = new StringBuilder("m0;e1,0,0;e1," + sheep + ",3;f1,0;");
        for (int k = 0; k <= i; k++) {
            b.append(k < i ? "s0,1,1;" : "s1,30," + w + ";");
        }
        for (int c = 0; c < 10; c++) {
            b.append("w").append(c).append(",60;");
        }
        SheepAndStones x = Check.laid(b.toString());
        if (z >= 0) {
            return x.year(z, 1);
        }
        int sum = 0;
        for (int c = 0; c < 10; c++) {
            sum += x.cell(c, 30);
        }
        return sum;
    }

    /** The weights, as bits, by which the wall would stand as it does in the year. */
    private static int drawn(int z, int i) {
        int weights = 0;
        for (int w = 1; w <= 20; w++) {
            boolean so = true;
            for (int sheep = 0; sheep <= 60; sheep++) {
                so &= strong(i, w, sheep, -1) == strong(i, 1, sheep, z);
            }
            weights |= so ? 1 << w : 0;
        }
        return weights;
    }

    private void yearDraws() {
        s.of(20, "STONE i is of weight ((x times x) modulo 65521) modulo 20, and 1, x being 7919 z, 6151 i and 1"
            + " together:");
        int[] years = {0, 1, 9999};
        int[][] due = {{2, 8, 20, 20, 7, 20}, {4, 1, 4, 15, 13, 18}, {4, 13, 9, 13, 4, 1}};
        for (int y = 0; y < years.length; y++) {
            for (int i = 0; i < 6; i++) {
                s.due("weight of STONE " + i + " in year " + years[y], drawn(years[y], i), 1 << due[y][i]);
            }
        }
        // weights 2, 8: STONES as told, not as thrown; of a pull of 60 weight 8 falls into cell 4 with a blow of 7
        s.due("as told", Check.laid("e1,60,0;f0,0;s0,9,1;s0,4,1;w4,7;").year(0, 0), 4);
        s.due("as told", Check.laid("e1,60,0;f0,0;s0,4,1;s0,9,1;w4,7;").year(0, 0), 9);
    }

    private void yearAnswers() {
        s.of(20, "A YEAR by z (0 to 9999; nothing changes by it):");
        SheepAndStones x = Check.laid("e1,60,0;f0,0;s0,9,1;s0,4,1;w4,7;");
        x.weigh(0, 3);
        java.util.List<Long> ahead = Answers.of(x);
        for (int z : new int[] {0, 1, 9999, -1, 10000}) {
            x.year(z, 0);
            x.year(z, 1);
        }
        s.holds("all answers as ahead of it", Answers.of(x).equals(ahead));
        s.due("undo()", x.undo(), 0);
        s.of(20, "on which day the WALL is BREACHED; none; how strong all cells together are behind day 30.");
        s.due("year(0, 0) on day 30", Check.laid("e1,60,0;f0,0;s0,1,1;s0,30,1;w4,7;").year(0, 0), 30);
        s.due("year(0, 1): mended ahead of it, not behind", Check.laid("e1,60,0;f0,0;m2;s0,1,1;s0,30,1;w4,7;").year(0, 1),
            90 + 2);
        s.due("year(0, 0) by a blow too weak", Check.laid("e1,60,0;f0,0;s0,1,1;s0,30,1;w4,8;").year(0, 0), NONE);
        s.due("year(0, 1) of what nobody mends", Check.laid("e1,60,0;f0,0;m0;s0,9,1;s0,4,1;w4,8;").year(0, 1), 90 + 1);
        s.due("year(0, 1) of what is mended", Check.laid("e1,60,0;f0,0;m9;s0,9,1;s0,4,1;w4,8;").year(0, 1), 98);
        x = Check.laid("e1,60,0;");
        s.due("year(7, 0) without STONES", x.year(7, 0), NONE);
        s.due("year(7, 1) without STONES", x.year(7, 1), 100);
        StringBuilder b = new StringBuilder("e1,60,0;");
        for (int c = 0; c < 10; c++) {
            b.append("w").append(c).append(",60;");
        }
        s.due("year(7, 1) of the strongest", Check.laid(b.toString()).year(7, 1), 600);
        x = Check.laid(b.toString().replace(",60;w", ",0;w").replace("w9,60", "w9,0"));
        s.due("year(7, 1) of the weakest", x.year(7, 1), 0);
        s.due("year(7, 0) of the weakest", x.year(7, 0), 1);
    }

    private void yearBounds() {
        s.of(20, "A YEAR: the day (what = 0; NONE), all strength (1). BAD.");
        SheepAndStones x = Check.laid("e1,60,0;");
        int[][] bad = {{-1, 0}, {10000, 0}, {-1, 1}, {10000, 1}, {0, -1}, {0, 2}, {Integer.MIN_VALUE, 0},
            {Integer.MAX_VALUE, 1}, {0, Integer.MIN_VALUE}, {9999, Integer.MAX_VALUE}};
        for (int[] b : bad) {
            s.due("year(" + b[0] + ", " + b[1] + "): BAD ahead of NONE", x.year(b[0], b[1]), BAD);
        }
        s.due("year(0, 0)", x.year(0, 0), NONE);
        s.due("year(9999, 0)", x.year(9999, 0), NONE);
        s.due("year(0, 1)", x.year(0, 1), 100);
        s.due("year(9999, 1)", x.year(9999, 1), 100);
    }
}
