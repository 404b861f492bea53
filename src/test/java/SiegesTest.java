/** Promises 1 to 7: the text, its fault, and what is laid. */
public final class SiegesTest {
    private static final Check check = new Check("SiegesTest");

    public static void main(String[] args) {
        newObject();
        write();
        wipe();
        faultPlaces();
        faultLimits();
        lay();
        engine();
        stone();
        stoneFar();
        check.end();
    }

    private static void newObject() {
        SheepAndStones x = new SheepAndStones();
        int[] counts = {1, 2, 2, 0, 0, 0, 0};
        for (int what = 0; what < counts.length; what++) {
            check.due("new: count(" + what + ")", x.count(what), counts[what]);
        }
        int[] engine = {5, 20, 0, 1};
        for (int what = 0; what < engine.length; what++) {
            check.due("new: engine(0, " + what + ")", x.engine(0, what), engine[what]);
        }
        int[][] stones = {{0, 1, 10, 10, 7, 10}, {0, 2, 10, 9, 6, 9}};
        for (int i = 0; i < stones.length; i++) {
            for (int what = 0; what < stones[i].length; what++) {
                check.due("new: stone(" + i + ", " + what + ")", x.stone(i, what), stones[i][what]);
            }
        }
        for (int c = 0; c < 10; c++) {
            check.due("new: cell(" + c + ", 0)", x.cell(c, 0), 10);
        }
        check.due("new: wipe", x.wipe(), 0);
    }

    private static void write() {
        SheepAndStones x = new SheepAndStones();
        int[] bad = {0, 9, -1, Integer.MIN_VALUE, Integer.MAX_VALUE};
        for (int n : bad) {
            check.due("write(" + n + ")", x.write(n, 0x6D353BL), SheepAndStones.BAD);
        }
        check.due("nothing written", x.count(6), 0);
        check.due("write: higher bytes are left out", x.write(3, 0xFFEEDDCCBB6D353BL), 3);
        check.due("write: the highest byte first", x.fault(), SheepAndStones.NONE);
        check.due("write: a byte above 127", x.write(1, -1L), 4);
        check.due("write: that byte is a fault", x.fault(), 3);
        check.due("write: eight with the highest bit", x.write(8, Long.MIN_VALUE), 12);
        x.wipe();
        for (int k = 1; k <= 37; k++) {
            check.due("write: " + k + " times eight", x.write(8, 0L), 8 * k);
        }
        check.due("write: 301", x.write(5, 0L), SheepAndStones.FULL);
        check.due("write: nothing of what is too long", x.count(6), 296);
        check.due("write: 300", x.write(4, 0L), 300);
        check.due("write: full", x.write(1, 0L), SheepAndStones.FULL);
        check.due("write: BAD ahead of FULL", x.write(9, 0L), SheepAndStones.BAD);
        check.due("write: 300 stay", x.wipe(), 300);
        check.due("write: anew", x.write(1, 0L), 1);
    }

    private static void wipe() {
        SheepAndStones x = new SheepAndStones();
        Check.tell(x, "e9,60,0;");
        check.due("wipe", x.wipe(), 8);
        check.due("wipe: empty", x.wipe(), 0);
        check.due("wipe: count", x.count(6), 0);
        check.due("wipe: what is laid stays", x.engine(0, 1), 20);
        Check.tell(x, "m1;");
        check.due("wipe: no old bytes behind the new ones", x.fault(), SheepAndStones.NONE);
    }

    private static void fault(String text, int place) {
        SheepAndStones x = new SheepAndStones();
        Check.tell(x, text);
        check.due("fault of " + text, x.fault(), place);
        check.due("fault of " + text + " again", x.fault(), place);
        if (place >= 0) {
            check.due("lay of " + text, x.lay(), SheepAndStones.NO);
        }
    }

    private static void faultPlaces() {
        int none = SheepAndStones.NONE;
        fault("", none);
        String[] good = {"e1,0,0;", "e9,60,3;", "e09,00,03;", "e1,0,0;s0,1,1;", "e1,0,0;s0,30,20;",
            "w0,0;", "w9,60;", "w09,05;", "m0;", "m9;", "m09;", "r1;", "r30;", "r01;", "e1,0,0;f0,0;",
            "e1,0,0;f0,9;", "e1,0,0;e1,0,0;s1,1,1;f1,3;", "m1;m2;m3;", "w1,1;w1,2;", "r5;r5;"};
        for (String text : good) {
            fault(text, none);
        }
        String[] bad = {"e0,0,0;", "e10,0,0;", "e1,61,0;", "e1,0,4;", "e1,0;", "e1,0,0,0;", "e1,0,0",
            "e1,0,0,", "e,0,0;", "e1,,0;", "e1,0,;", "e001,0,0;", "e1,000,0;", "e1,0,000;", "e-1,0,0;",
            "e 1,0,0;", "E1,0,0;", "x1;", ";", "e;", "e", "0;", "w10,1;", "w0,61;", "w0;", "w0,1,1;",
            "m10;", "m;", "m1,1;", "m1", "r0;", "r31;", "r1,1;", "r;", "s0,1,1;", "f0,1;", "m1,;", "m;1;"};
        for (String text : bad) {
            fault(text, 0);
            fault("e1,0,0;" + text, text.equals("s0,1,1;") || text.equals("f0,1;") ? none : 7);
            fault(text + "e1,0,0;", 0);
        }
        fault("m1;m2;m10;m11;", 6);
        fault("m1;;", 3);
        fault("m1;\n", 3);
        fault("m1; m2;", 3);
        String[] stones = {"s1,1,1;", "s0,0,1;", "s0,31,1;", "s0,1,0;", "s0,1,21;", "s0,1;", "s0,1,1,1;",
            "f1,1;", "f0,10;", "f0;", "f0,1,1;"};
        for (String text : stones) {
            fault("e1,0,0;" + text, 7);
            fault("e1,0,0;s0,1,1;" + text, 14);
        }
    }

    private static void faultLimits() {
        String engines = "e1,0,0;e1,0,0;e1,0,0;";
        fault(engines, SheepAndStones.NONE);
        fault(engines + "s2,1,1;", SheepAndStones.NONE);
        fault(engines + "s3,1,1;", 21);
        fault(engines + "e1,0,0;", 21);
        fault("e1,0,0;" + "s0,1,1;".repeat(6), SheepAndStones.NONE);
        fault("e1,0,0;" + "s0,1,1;".repeat(7), 49);
        fault("r1;".repeat(6), SheepAndStones.NONE);
        fault("r1;".repeat(7), 18);
        fault("e1,0,0;" + "f0,1;".repeat(20), SheepAndStones.NONE);
        fault("m1;".repeat(100), SheepAndStones.NONE);
        fault("m1;".repeat(99) + "m1,", 297);
        fault(";".repeat(300), 0);
    }

    private static void lay() {
        SheepAndStones x = new SheepAndStones();
        check.due("lay: nothing told", x.lay(), SheepAndStones.NO);
        Check.tell(x, "m3;w1,1;r4;");
        check.due("lay: no engine", x.lay(), SheepAndStones.NO);
        Check.tell(x, "e1,0,0;x");
        check.due("lay: a fault", x.lay(), SheepAndStones.NO);
        check.due("lay: nothing changes", x.count(2), 2);
        check.due("lay: nothing changes", x.count(3), 0);
        check.due("lay: nothing changes", x.engine(0, 0), 5);
        check.due("lay: nothing changes", x.cell(1, 0), 10);
        x.weigh(0, 3);
        x.give(0, 3);
        x.keep();
        check.due("lay: NO with changes", x.lay(), SheepAndStones.NO);
        check.due("lay: what can be undone stays", x.count(4), 2);
        check.due("lay: what is kept stays", x.count(5), 1);
        x.wipe();
        Check.tell(x, "e2,40,1;e3,30,2;w1,1;w1,0;m3;m4;r4;r4;r9;s1,30,20;f1,4;f1,0;");
        check.due("lay: two engines", x.lay(), 2);
        int[] counts = {2, 1, 4, 3, 0, 0, 60};
        for (int what = 0; what < counts.length; what++) {
            check.due("lay: count(" + what + ")", x.count(what), counts[what]);
        }
        check.due("lay: nothing to undo", x.undo(), SheepAndStones.NO);
        check.due("lay: nothing kept", x.back(), SheepAndStones.NO);
        check.due("lay: the last strength", x.cell(1, 0), 0);
        check.due("lay: the last meal", x.engine(1, 3), 0);
        x.give(0, 1);
        check.due("lay: again", x.lay(), 2);
        check.due("lay: as the text tells", x.engine(0, 1), 40);
        x.wipe();
        Check.tell(x, "e1,1,0;");
        check.due("lay: one", x.lay(), 1);
        check.due("lay: untold menders", x.count(2), 2);
        check.due("lay: untold strength", x.cell(1, 0), 10);
        check.due("lay: untold meal", x.engine(0, 3), 1);
        check.due("lay: untold stones", x.count(1), 0);
        check.due("lay: untold rain", x.count(3), 0);
        check.due("lay: gone engine", x.engine(1, 0), SheepAndStones.BAD);
        // the order of the weights is sought anew for another siege
        SheepAndStones y = new SheepAndStones();
        check.due("lay: order ahead", y.order(0), 10);
        Check.tell(y, "e1,20,0;s0,1,4;w2,4;");
        y.lay();
        check.due("lay: order behind", y.order(0), 4);
    }

    private static void engine() {
        SheepAndStones x = Check.laid("e1,2,3;e9,60,1;f1,7;");
        int[][] due = {{1, 2, 3, 1}, {9, 60, 1, 7}};
        for (int e = 0; e < due.length; e++) {
            for (int what = 0; what < 4; what++) {
                check.due("engine(" + e + ", " + what + ")", x.engine(e, what), due[e][what]);
            }
        }
        int[][] bad = {{2, 0}, {-1, 0}, {0, 4}, {0, -1}, {3, 9}, {Integer.MIN_VALUE, 0}, {Integer.MAX_VALUE, 1}};
        for (int[] call : bad) {
            check.due("engine(" + call[0] + ", " + call[1] + ")", x.engine(call[0], call[1]), SheepAndStones.BAD);
        }
        x.give(1, 5);
        check.due("engine: other sheep", x.engine(1, 1), 5);
    }

    private static void stone() {
        SheepAndStones x = Check.laid("e1,2,3;e9,60,1;s1,30,20;s0,1,1;s0,30,2;");
        int[][] due = {{1, 30, 20}, {0, 1, 1}, {0, 30, 2}};
        for (int i = 0; i < due.length; i++) {
            for (int what = 0; what < 3; what++) {
                check.due("stone(" + i + ", " + what + ")", x.stone(i, what), due[i][what]);
            }
        }
        int[][] bad = {{3, 0}, {-1, 0}, {0, 6}, {0, -1}, {Integer.MAX_VALUE, 0}, {0, Integer.MIN_VALUE}};
        for (int[] call : bad) {
            check.due("stone(" + call[0] + ", " + call[1] + ")", x.stone(call[0], call[1]), SheepAndStones.BAD);
        }
        x.weigh(1, 5);
        check.due("stone: another weight", x.stone(1, 2), 5);
    }

    private static void flies(String text, int far, int cell, int blow) {
        SheepAndStones x = Check.laid(text);
        check.due(text + " far", x.stone(0, 3), far);
        check.due(text + " cell", x.stone(0, 4), cell);
        check.due(text + " blow", x.stone(0, 5), blow);
    }

    private static void stoneFar() {
        int none = SheepAndStones.NONE;
        flies("e1,2,0;s0,1,1;", 2, none, 1);
        flies("e1,3,0;s0,1,1;", 3, 0, 2);
        flies("e1,12,0;s0,1,1;", 12, 9, 6);
        flies("e1,13,0;s0,1,1;", 13, none, 7);
        flies("e9,60,0;s0,1,1;", 540, none, 270);
        flies("e1,0,0;s0,1,20;", 0, none, 10);
        // eaten on the days ahead, not on the day itself
        flies("e1,12,0;s0,3,1;f0,2;", 8, 5, 4);
        flies("e1,12,0;s0,3,1;f0,9;", 0, none, 0);
        // a damp engine, and another kind in the same rain
        flies("e3,21,1;s0,2,4;r2;f0,0;", 7, 4, 5);
        flies("e3,21,1;s0,2,4;r1;r3;f0,0;", 15, none, 9);
        flies("e3,21,1;s0,2,4;r1;r2;r2;f0,0;", 7, 4, 5);
        flies("e3,21,2;s0,2,7;r2;f0,0;", 9, 6, 8);
        flies("e3,21,0;s0,2,7;r2;f0,0;", 9, 6, 8);
        // a frozen one: by twice the weight, and 3 more
        flies("e7,9,3;s0,1,5;", 9, 6, 7);
        flies("e7,9,3;s0,1,5;r1;", 9, 6, 7);
        flies("e7,0,3;s0,1,5;", 3, 0, 4);
        flies("e9,60,3;s0,1,20;", 16, none, 18);
        flies("e1,59,3;s0,1,20;", 4, 1, 12);
    }
}
