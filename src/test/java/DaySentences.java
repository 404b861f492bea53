/** Sentences of flight, days, menders and breach: promises 6 to 11. */
final class DaySentences {
    private static final int BAD = SheepAndStones.BAD, NONE = SheepAndStones.NONE;

    private final Sentences s;

    DaySentences(Sentences s) {
        this.s = s;
    }

    void run() {
        engine();
        stone();
        pull();
        damp();
        far();
        cellOfFall();
        blow();
        twin();
        dayByDay();
        thrown();
        broken();
        lies();
        menders();
        weakest();
        lowestOfSeveral();
        oneByOne();
        eaten();
        strongBehind();
        breached();
        firstBreach();
    }

    private void engine() {
        s.of(6, "Of an ENGINE: ARM (what = 0), SHEEP at first (1), KIND (2), SHEEP eaten each night (3). BAD.");
        SheepAndStones x = Check.laid("e1,0,0;e9,60,3;e2,30,1;f0,0;f1,9;");
        int[][] due = {{1, 0, 0, 0}, {9, 60, 3, 9}, {2, 30, 1, 1}};
        for (int e = 0; e < 3; e++) {
            for (int what = 0; what < 4; what++) {
                s.due("engine(" + e + ", " + what + ")", x.engine(e, what), due[e][what]);
            }
            s.due("engine(" + e + ", -1)", x.engine(e, -1), BAD);
            s.due("engine(" + e + ", 4)", x.engine(e, 4), BAD);
        }
        s.due("engine(-1, 0)", x.engine(-1, 0), BAD);
        s.due("engine(3, 0)", x.engine(3, 0), BAD);
        x.give(1, 59);
        s.due("engine(1, 1) given 59", x.engine(1, 1), 59);
    }

    private void stone() {
        s.of(7, "Of a STONE: ENGINE (what = 0), day (1), W (2), FAR (3), the cell (4; NONE: beside), BLOW (5). BAD.");
        SheepAndStones x = Check.laid("e1,3,0;e1,50,2;f0,0;f1,0;s1,30,20;s0,1,1;s1,2,10;");
        int[][] due = {{1, 30, 20, 2, NONE, 11}, {0, 1, 1, 3, 0, 2}, {1, 2, 10, 5, 2, 7}};
        for (int i = 0; i < 3; i++) {
            for (int what = 0; what < 6; what++) {
                s.due("stone(" + i + ", " + what + ")", x.stone(i, what), due[i][what]);
            }
            s.due("stone(" + i + ", -1)", x.stone(i, -1), BAD);
            s.due("stone(" + i + ", 6)", x.stone(i, 6), BAD);
        }
        s.due("stone(-1, 0)", x.stone(-1, 0), BAD);
        s.due("stone(3, 0)", x.stone(3, 0), BAD);
        x = Check.laid("e1,3,0;");
        s.due("stone(0, 0) without any", x.stone(0, 0), BAD);
        x.weigh(0, 2);
        s.due("stone(0, 4) without any", x.stone(0, 4), BAD);
    }

    private void flies(String text, int far) {
        s.due("stone(0, 3) of " + text, Check.laid(text).stone(0, 3), far);
    }

    private void pull() {
        s.of(7, "The PULL of an ENGINE is ARM times SHEEP;");
        flies("e1,0,0;s0,1,1;", 0);
        flies("e9,0,0;s0,1,1;", 0);
        flies("e1,60,0;s0,1,1;", 60);
        flies("e7,8,0;s0,1,1;", 56);
        flies("e9,60,0;s0,1,1;", 540);
        // SHEEP as they are on the day: those of its night are eaten behind it
        flies("e2,60,0;s0,1,1;f0,9;", 120);
        flies("e2,60,0;s0,2,1;f0,9;", 102);
        flies("e2,60,0;s0,7,1;f0,9;", 12);
        flies("e2,60,0;s0,8,1;f0,9;", 0);
        flies("e2,60,0;s0,30,1;", 62);
        flies("e2,60,0;s0,30,1;f0,0;", 120);
        s.of(21, "is ARM times SHEEP;");
        SheepAndStones x = Check.laid("e2,10,0;e3,10,0;f1,0;s1,5,1;");
        x.give(1, 60);
        s.due("stone(0, 3) of 60 given", x.stone(0, 3), 180);
        x.give(1, 0);
        s.due("stone(0, 3) of none given", x.stone(0, 3), 0);
    }

    private void damp() {
        s.of(7, "of a DAMP one on a day of rain half of that, cut.");
        flies("e1,7,1;f0,0;s0,1,1;r1;", 3);
        flies("e1,8,1;f0,0;s0,1,1;r1;", 4);
        flies("e1,1,1;f0,0;s0,1,1;r1;", 0);
        flies("e9,60,1;f0,0;s0,1,1;r1;", 270);
        flies("e1,7,1;f0,0;s0,1,1;", 7);
        flies("e1,7,1;f0,0;s0,2,1;r1;r3;", 7);
        flies("e1,7,1;f0,0;s0,30,1;r1;r2;r3;r4;r5;r30;", 3);
        flies("e1,7,1;f0,0;s0,1,1;r1;r1;", 3);
        // half of the pull is cut ahead of the division by the weight: 7 of 15, not 15 by 4
        flies("e1,15,1;f0,0;s0,1,2;r1;", 3);
        flies("e1,7,0;f0,0;s0,1,1;r1;", 7);
        flies("e1,7,2;f0,0;s0,1,1;r1;", 7);
        flies("e1,8,3;f0,0;s0,1,1;r1;", 7);
    }

    private void far() {
        s.of(7, "A STONE flies as FAR as PULL by W, cut;");
        flies("e1,59,0;s0,1,20;", 2);
        flies("e1,60,0;s0,1,20;", 3);
        flies("e1,19,0;s0,1,20;", 0);
        flies("e1,19,0;s0,1,19;", 1);
        flies("e9,60,0;s0,1,20;", 27);
        flies("e9,60,2;s0,1,20;", 27);
        s.of(7, "of a FROZEN ENGINE PULL by twice W, cut, and 3 more.");
        flies("e1,0,3;s0,1,20;", 3);
        flies("e1,39,3;s0,1,20;", 3);
        flies("e1,40,3;s0,1,20;", 4);
        flies("e1,1,3;s0,1,1;", 3);
        flies("e1,2,3;s0,1,1;", 4);
        flies("e9,60,3;s0,1,1;", 273);
        flies("e9,60,3;s0,1,20;", 16);
    }

    private void cellOfFall() {
        s.of(7, "It falls into cell FAR less 3, if that is 0 to 9, else beside the WALL;");
        for (int far = 0; far <= 60; far++) {
            SheepAndStones x = Check.laid("e1," + far + ",0;s0,1,1;m0;");
            boolean inWall = far >= 3 && far <= 12;
            s.due("stone(0, 4) of FAR " + far, x.stone(0, 4), inWall ? far - 3 : NONE);
            int hit = 0;
            for (int c = 0; c < 10; c++) {
                hit += x.cell(c, 1) < 10 ? 1 << c : 0;
            }
            s.due("cells hit by FAR " + far, hit, inWall ? 1 << far - 3 : 0);
        }
    }

    private void blow() {
        s.of(7, "its BLOW is W and FAR together, by 2, cut;");
        int[][] due = {{0, 1, 0}, {1, 1, 1}, {2, 1, 1}, {3, 1, 2}, {12, 1, 6}, {60, 1, 30}, {60, 20, 11}, {0, 20, 10}};
        for (int[] d : due) {
            SheepAndStones x = Check.laid("e1," + d[0] + ",2;s0,1," + d[1] + ";");
            s.due("stone(0, 5) of " + d[0] + " by " + d[1], x.stone(0, 5), d[2]);
        }
        s.due("stone(0, 5) of the greatest", Check.laid("e9,60,0;s0,1,1;").stone(0, 5), 270);
        s.due("stone(0, 5) of a frozen one", Check.laid("e9,60,3;s0,1,1;").stone(0, 5), 137);
        s.due("stone(0, 5) of a damp one", Check.laid("e9,60,1;r1;s0,1,1;").stone(0, 5), 135);
    }

    private void twin() {
        s.of(9, "of a TWIN ENGINE the cell beside (the number one higher), too, gets half of that, cut, if there is one.");
        // FAR, the blow of weight 1, and its half
        int[][] due = {{3, 2, 1}, {4, 2, 1}, {5, 3, 1}, {6, 3, 1}, {7, 4, 2}, {11, 6, 3}, {12, 6, 3}};
        for (int[] d : due) {
            SheepAndStones x = Check.laid("e1," + d[0] + ",2;s0,1,1;m0;");
            for (int c = 0; c < 10; c++) {
                int less = c == d[0] - 3 ? d[1] : c == d[0] - 2 ? d[2] : 0;
                s.due("cell(" + c + ", 1) of FAR " + d[0], x.cell(c, 1), 10 - less);
            }
        }
        for (int far : new int[] {0, 1, 2, 13, 14, 60}) {
            SheepAndStones x = Check.laid("e1," + far + ",2;s0,1,1;m0;");
            for (int c = 0; c < 10; c++) {
                s.due("cell(" + c + ", 1) beside, of FAR " + far, x.cell(c, 1), 10);
            }
        }
        for (int kind : new int[] {0, 1, 3}) {
            SheepAndStones x = Check.laid("e1,8," + kind + ";s0,1,1;m0;");
            s.due("the cell beside of KIND " + kind, x.cell(kind == 3 ? 5 : 6, 1), 10);
            s.due("the cell of KIND " + kind, x.cell(kind == 3 ? 4 : 5, 1), 6);
        }
        SheepAndStones x = Check.laid("e1,7,2;s0,1,1;m0;w4,4;w5,1;");
        s.due("the cell beside: 0 at least", x.cell(5, 1), 0);
    }

    private void dayByDay() {
        s.of(9, "On each day, from day 1 to 30, one behind the other:");
        SheepAndStones x = Check.laid("e1,5,0;f0,0;m0;s0,30,1;s0,1,1;s0,2,1;w2,60;");
        int[][] due = {{0, 60}, {1, 57}, {2, 54}, {3, 54}, {29, 54}, {30, 51}};
        for (int[] d : due) {
            s.due("cell(2, " + d[0] + ")", x.cell(2, d[0]), d[1]);
            s.due("rubble(" + d[0] + ")", x.rubble(d[0]), d[0] == 30 ? 3 : Math.min(2, d[0]));
        }
    }

    private void thrown() {
        s.of(9, "1 STONES of the day are thrown, as told;");
        SheepAndStones x = Check.laid("e1,5,0;e1,6,0;f0,0;f1,0;m0;s1,2,1;s0,2,1;s0,1,1;s0,2,1;s1,2,1;s0,3,1;w2,30;w3,30;");
        int[][] due = {{30, 30}, {27, 30}, {21, 24}, {18, 24}, {18, 24}};
        for (int d = 0; d < due.length; d++) {
            s.due("cell(2, " + d + ")", x.cell(2, d), due[d][0]);
            s.due("cell(3, " + d + ")", x.cell(3, d), due[d][1]);
        }
    }

    private void broken() {
        s.of(9, "a cell that is hit is weaker by its BLOW, 0 at least;");
        int[][] due = {{4, 1}, {3, 0}, {2, 0}, {1, 0}, {0, 0}, {60, 57}};
        for (int[] d : due) {
            SheepAndStones x = Check.laid("e1,5,0;m0;s0,1,1;w2," + d[0] + ";");
            s.due("cell(2, 1) of " + d[0], x.cell(2, 1), d[1]);
        }
        SheepAndStones x = Check.laid("e1,5,0;m0;f0,0;s0,1,1;s0,1,1;s0,2,1;w2,5;");
        s.due("cell(2, 1) of two blows", x.cell(2, 1), 0);
        s.due("cell(2, 2) of three blows", x.cell(2, 2), 0);
    }

    private void lies() {
        s.of(10, "the weight of a STONE that fell into a cell lies there.");
        s.due("rubble(1) of FAR 2", Check.laid("e1,2,0;m0;s0,1,1;").rubble(1), 0);
        s.due("rubble(1) of FAR 3", Check.laid("e1,3,0;m0;s0,1,1;").rubble(1), 1);
        s.due("rubble(1) of FAR 12", Check.laid("e1,12,0;m0;s0,1,1;").rubble(1), 1);
        s.due("rubble(1) of FAR 13", Check.laid("e1,13,0;m0;s0,1,1;").rubble(1), 0);
        s.due("rubble(1) of weight 20", Check.laid("e1,60,0;m0;s0,1,20;").rubble(1), 20);
        s.due("rubble(1) of a TWIN ENGINE: once", Check.laid("e1,60,2;m0;s0,1,20;").rubble(1), 20);
        s.due("rubble(1) of cells of 0", Check.laid("e1,60,0;m0;w0,0;s0,1,20;").rubble(1), 20);
        SheepAndStones x = Check.laid("e3,60,0;f0,0;m0;" + "s0,1,20;".repeat(5) + "s0,30,20;");
        s.due("rubble(0)", x.rubble(0), 0);
        s.due("rubble(1) of five", x.rubble(1), 100);
        s.due("rubble(29)", x.rubble(29), 100);
        s.due("rubble(30) of six", x.rubble(30), 120);
    }

    private void menders() {
        s.of(9, "2 At night MENDERS mend B times, as long as any weight lies there (in all cells together):");
        // weight 9 falls into cell 3 with a blow of 7, so 2 of it are left
        for (int b = 0; b <= 9; b++) {
            SheepAndStones x = Check.laid("e1,60,0;f0,0;s0,1,9;w3,20;m" + b + ";");
            s.due("cell(3, 1) by m" + b, x.cell(3, 1), 13 + Math.min(7, b));
            s.due("rubble(1) by m" + b, x.rubble(1), 9 - Math.min(7, b));
            s.due("cell(3, 2) by m" + b, x.cell(3, 2), 13 + Math.min(7, 2 * b));
            s.due("rubble(2) by m" + b, x.rubble(2), 9 - Math.min(7, 2 * b));
        }
        // weight 1 breaks 5: it is used up behind one mending
        SheepAndStones x = Check.laid("e1,9,0;f0,0;s0,1,1;m9;");
        s.due("cell(6, 1)", x.cell(6, 1), 6);
        s.due("rubble(1)", x.rubble(1), 0);
        s.due("cell(6, 30)", x.cell(6, 30), 6);
        // what lies in cell 0 mends cell 9
        x = Check.laid("e1,60,0;e1,12,0;f0,0;f1,0;s0,1,20;s1,1,1;w0,2;m9;");
        s.due("cell(0, 1)", x.cell(0, 1), 2);
        s.due("cell(9, 1)", x.cell(9, 1), 10);
        s.due("rubble(1)", x.rubble(1), 21 - 2 - 6);
        s.of(9, "MENDERS mend B times");
        s.due("without: two times", Check.laid("e1,60,0;s0,1,9;w3,20;").cell(3, 1), 15);
    }

    private void weakest() {
        s.of(9, "the weakest cell of those that are weaker than at first");
        // cell 0 is weak at first, cell 3 is hit: it alone is mended
        SheepAndStones x = Check.laid("e1,60,0;f0,0;s0,1,9;w0,1;w3,20;m3;");
        s.due("cell(0, 1)", x.cell(0, 1), 1);
        s.due("cell(3, 1)", x.cell(3, 1), 16);
        // cell 3 of 30 less 7 is stronger than cell 5 of 12 less 7, though both lost the same
        x = Check.laid("e1,60,0;e1,56,0;f0,0;f1,0;s0,1,9;s1,1,7;w3,30;w5,12;m3;");
        s.due("stone(1, 5)", x.stone(1, 5), 7);
        s.due("cell(3, 1)", x.cell(3, 1), 23);
        s.due("cell(5, 1)", x.cell(5, 1), 8);
        s.due("cell(3, 2)", x.cell(3, 2), 23);
        s.due("cell(5, 2)", x.cell(5, 2), 11);
        s.due("cell(3, 3)", x.cell(3, 3), 25);
        s.due("cell(5, 3): no stronger than at first", x.cell(5, 3), 12);
        // a cell of 0 is mended, too
        x = Check.laid("e1,60,0;f0,0;s0,1,9;w3,7;m1;");
        s.due("cell(3, 1) of a breach", x.cell(3, 1), 1);
        s.due("cell(3, 30) of a breach", x.cell(3, 30), 7);
        x = Check.laid("e1,60,0;f0,0;s0,1,9;w3,0;m9;");
        s.due("cell(3, 30) of 0 at first", x.cell(3, 30), 0);
        s.due("rubble(30) of 0 at first", x.rubble(30), 9);
    }

    private void lowestOfSeveral() {
        s.of(9, "(the lowest of several; if there is none, nothing)");
        // cells 1 and 9 lose 3 and 6; from 24 on in turns, the lower one ahead
        SheepAndStones x = Check.laid("e1,12,0;e1,4,0;f0,0;f1,0;s0,1,1;s0,1,1;s1,1,1;s1,1,1;s1,1,1;w9,18;w1,12;m1;");
        int[][] due = {{12, 18}, {7, 6}, {7, 7}, {8, 7}, {8, 8}};
        for (int d = 0; d < due.length; d++) {
            s.due("cell(1, " + d + ")", x.cell(1, d), due[d][0]);
            s.due("cell(9, " + d + ")", x.cell(9, d), due[d][1]);
        }
        x = Check.laid("e1,3,2;f0,0;s0,1,1;w0,9;w1,8;m1;");
        s.due("cell(0, 1): the lowest of two of 7", x.cell(0, 1), 8);
        s.due("cell(1, 1)", x.cell(1, 1), 7);
        x = Check.laid("e1,60,0;f0,0;s0,1,20;w0,11;m9;");
        s.due("rubble(1)", x.rubble(1), 11);
        s.due("rubble(2)", x.rubble(2), 9);
        s.due("rubble(3): none is weaker", x.rubble(3), 9);
        s.due("rubble(30): none is weaker", x.rubble(30), 9);
        s.due("cell(0, 30)", x.cell(0, 30), 11);
        s.due("cell(1, 30)", x.cell(1, 30), 10);
    }

    private void oneByOne() {
        s.of(10, "by 1, which takes 1 of that weight.");
        SheepAndStones x = Check.laid("e1,60,0;f0,0;s0,1,9;w3,20;m3;");
        int[][] due = {{20, 0}, {16, 6}, {19, 3}, {20, 2}, {20, 2}};
        for (int d = 0; d < due.length; d++) {
            s.due("cell(3, " + d + ")", x.cell(3, d), due[d][0]);
            s.due("rubble(" + d + ")", x.rubble(d), due[d][1]);
        }
        s.of(10, "What weight lies behind day d (0 to 30). BAD.");
        for (int d : new int[] {-1, 31, Integer.MIN_VALUE, Integer.MAX_VALUE}) {
            s.due("rubble(" + d + ")", x.rubble(d), BAD);
        }
        s.due("rubble(0)", x.rubble(0), 0);
        s.due("rubble(30)", x.rubble(30), 2);
        s.due("rubble(1): the night is over", x.rubble(1), 6);
    }

    private void eaten() {
        s.of(8, "3 SHEEP are eaten, N of each ENGINE, 0 at least.");
        SheepAndStones x = Check.laid("e1,60,0;e1,60,0;e1,9,0;f0,9;f1,0;f2,9;");
        int[][] due = {{60, 60, 9}, {51, 60, 0}, {42, 60, 0}, {33, 60, 0}, {24, 60, 0}, {15, 60, 0}, {6, 60, 0}, {0, 60, 0}};
        for (int d = 0; d < due.length; d++) {
            for (int e = 0; e < 3; e++) {
                s.due("sheep(" + e + ", " + d + ")", x.sheep(e, d), due[d][e]);
            }
        }
        s.of(8, "SHEEP of an ENGINE behind day d (0 to 30). BAD.");
        x = Check.laid("e1,60,0;e1,30,0;e1,29,0;");
        int[][] last = {{31, 30, 60}, {1, 0, 30}, {0, 0, 29}};
        for (int e = 0; e < 3; e++) {
            s.due("sheep(" + e + ", 29)", x.sheep(e, 29), last[e][0]);
            s.due("sheep(" + e + ", 30)", x.sheep(e, 30), last[e][1]);
            s.due("sheep(" + e + ", 0)", x.sheep(e, 0), last[e][2]);
            s.due("sheep(" + e + ", -1)", x.sheep(e, -1), BAD);
            s.due("sheep(" + e + ", 31)", x.sheep(e, 31), BAD);
        }
        s.due("sheep(-1, 0)", x.sheep(-1, 0), BAD);
        s.due("sheep(3, 0)", x.sheep(3, 0), BAD);
        x.give(0, 1);
        s.due("sheep(0, 0) given 1", x.sheep(0, 0), 1);
        s.due("sheep(0, 1) given 1", x.sheep(0, 1), 0);
    }

    private void strongBehind() {
        s.of(9, "How strong a cell is behind day d (0 to 30). BAD.");
        SheepAndStones x = Check.laid("e1,60,0;f0,0;m2;s0,30,9;w0,0;w3,20;w9,60;");
        int[][] due = {{0, 0, 0}, {0, 30, 0}, {3, 0, 20}, {3, 29, 20}, {3, 30, 15}, {9, 0, 60}, {9, 30, 60}, {1, 30, 10}};
        for (int[] d : due) {
            s.due("cell(" + d[0] + ", " + d[1] + ")", x.cell(d[0], d[1]), d[2]);
        }
        int[][] bad = {{-1, 0}, {10, 0}, {0, -1}, {0, 31}, {10, 31}, {-1, -1}, {Integer.MIN_VALUE, 30},
            {Integer.MAX_VALUE, 30}, {9, Integer.MIN_VALUE}, {9, Integer.MAX_VALUE}};
        for (int[] b : bad) {
            s.due("cell(" + b[0] + ", " + b[1] + ")", x.cell(b[0], b[1]), BAD);
        }
    }

    private void breach(String text, int day, int cell) {
        SheepAndStones x = Check.laid(text);
        s.due("breach(0) of " + text, x.breach(0), day);
        s.due("breach(1) of " + text, x.breach(1), cell);
    }

    private void breached() {
        s.of(11, "BREACHED is a cell of strength 0 behind step 1.");
        // a blow of 3: just enough, one too few, one too many; by night it is mended
        breach("e1,5,0;s0,1,1;w2,3;m9;", 1, 2);
        breach("e1,5,0;s0,1,1;w2,4;m9;", NONE, NONE);
        breach("e1,5,0;s0,1,1;w2,2;m9;", 1, 2);
        // 0 at first: behind step 1 of day 1 it still is
        breach("e1,5,0;w9,0;", 1, 9);
        breach("e1,5,0;s0,1,1;w2,3;w1,0;", 1, 1);
        // by the cell beside alone
        breach("e1,5,2;s0,1,1;w2,4;w3,1;", 1, 3);
        breach("e1,12,2;s0,1,1;w9,7;w0,3;", NONE, NONE);
        // two blows of one day
        breach("e1,5,0;f0,0;s0,4,1;s0,4,1;w2,6;m9;", 4, 2);
        breach("e1,5,0;f0,0;s0,4,1;s0,5,1;w2,6;m9;", NONE, NONE);
        breach("e1,5,0;f0,0;s0,4,1;s0,5,1;w2,6;m0;", 5, 2);
        breach("e1,2,0;s0,1,1;w0,1;", NONE, NONE);
    }

    private void firstBreach() {
        s.of(11, "The first day on which some cell is: none.");
        breach("e1,5,0;", NONE, NONE);
        breach("e1,5,0;f0,0;s0,30,1;w2,3;", 30, 2);
        breach("e1,5,0;f0,0;s0,30,1;s0,29,1;w2,3;", 29, 2);
        breach("e1,5,0;e1,4,0;f0,0;f1,0;s1,3,1;s0,2,1;w2,3;w1,2;", 2, 2);
        s.of(11, "The day of the first BREACH (what = 0), its cell (1; the lowest). NONE; BAD.");
        breach("e1,5,0;e1,4,0;f0,0;f1,0;s0,2,1;s1,2,1;w2,3;w1,2;", 2, 1);
        breach("e1,5,0;w0,0;w9,0;", 1, 0);
        breach("e1,5,2;s0,1,1;w2,3;w3,1;", 1, 2);
        SheepAndStones x = Check.laid("e1,5,0;");
        for (int what : new int[] {-1, 2, Integer.MIN_VALUE, Integer.MAX_VALUE}) {
            s.due("breach(" + what + ") without a breach: BAD ahead of NONE", x.breach(what), BAD);
            s.due("breach(" + what + ")", new SheepAndStones().breach(what), BAD);
        }
    }
}
