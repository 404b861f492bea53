/** Sentences of other weights and sheep, undone, kept and counted: promises 21 to 26. */
final class ChangeSentences {
    private static final int BAD = SheepAndStones.BAD, NO = SheepAndStones.NO, FULL = SheepAndStones.FULL;

    private final Sentences s;

    ChangeSentences(Sentences s) {
        this.s = s;
    }

    void run() {
        weigh();
        give();
        undo();
        undoEight();
        undoSame();
        keep();
        keptAsTheyStand();
        back();
        count();
        countBounds();
    }

    private static SheepAndStones three() {
        return Check.laid("e1,5,0;e2,6,0;e3,7,0;s0,1,1;s1,2,2;s2,3,3;");
    }

    private void weights(SheepAndStones x, int... due) {
        for (int i = 0; i < due.length; i++) {
            s.due("stone(" + i + ", 2)", x.stone(i, 2), due[i]);
        }
    }

    private void sheep(SheepAndStones x, int... due) {
        for (int e = 0; e < due.length; e++) {
            s.due("engine(" + e + ", 1)", x.engine(e, 1), due[e]);
        }
    }

    private void weigh() {
        s.of(21, "A STONE can be of another weight,");
        SheepAndStones x = three();
        s.due("weigh(1, 20)", x.weigh(1, 20), 2);
        weights(x, 1, 20, 3);
        sheep(x, 5, 6, 7);
        s.due("stone(1, 3): FAR by it", x.stone(1, 3), 0);
        s.due("weigh(1, 1)", x.weigh(1, 1), 20);
        s.due("stone(1, 3): FAR by it", x.stone(1, 3), 10);
        s.due("cell(7, 2): its blow", x.cell(7, 2), 6);
        s.of(21, "A STONE is of weight w (1 to 20): what it was. BAD.");
        s.due("weigh(0, 1): as it was", x.weigh(0, 1), 1);
        s.due("weigh(2, 20)", x.weigh(2, 20), 3);
        s.due("weigh(2, 20): as it was", x.weigh(2, 20), 20);
        int[][] bad = {{-1, 5}, {3, 5}, {0, 0}, {0, 21}, {2, 0}, {2, 21}, {-1, 0}, {Integer.MIN_VALUE, 5},
            {Integer.MAX_VALUE, 5}, {0, Integer.MIN_VALUE}, {0, Integer.MAX_VALUE}};
        for (int[] b : bad) {
            s.due("weigh(" + b[0] + ", " + b[1] + ")", x.weigh(b[0], b[1]), BAD);
        }
        weights(x, 1, 1, 20);
        s.due("count(4): what is BAD cannot be UNDONE", x.count(4), 5);
        x = Check.laid("e1,5,0;");
        s.due("weigh(0, 5) without STONES", x.weigh(0, 5), BAD);
        s.due("count(4)", x.count(4), 0);
    }

    private void give() {
        s.of(22, "an ENGINE have other SHEEP at first.");
        SheepAndStones x = three();
        s.due("give(1, 60)", x.give(1, 60), 6);
        sheep(x, 5, 60, 7);
        weights(x, 1, 2, 3);
        s.due("sheep(1, 30)", x.sheep(1, 30), 30);
        s.due("stone(1, 3): FAR by them", x.stone(1, 3), 59);
        s.of(22, "An ENGINE has s SHEEP (0 to 60) at first: how many it had. BAD.");
        s.due("give(1, 0)", x.give(1, 0), 60);
        s.due("give(1, 0): as it was", x.give(1, 0), 0);
        s.due("give(0, 60)", x.give(0, 60), 5);
        s.due("give(2, 1)", x.give(2, 1), 7);
        int[][] bad = {{-1, 5}, {3, 5}, {0, -1}, {0, 61}, {2, -1}, {2, 61}, {3, 61}, {Integer.MIN_VALUE, 5},
            {Integer.MAX_VALUE, 5}, {0, Integer.MIN_VALUE}, {0, Integer.MAX_VALUE}};
        for (int[] b : bad) {
            s.due("give(" + b[0] + ", " + b[1] + ")", x.give(b[0], b[1]), BAD);
        }
        sheep(x, 60, 0, 1);
        s.due("count(4): what is BAD cannot be UNDONE", x.count(4), 5);
    }

    private void undo() {
        s.of(23, "UNDONE: how many more can be. NO.");
        SheepAndStones x = three();
        s.due("undo() of nothing", x.undo(), NO);
        x.weigh(0, 9);
        x.give(0, 9);
        x.weigh(0, 8);
        s.due("undo()", x.undo(), 2);
        weights(x, 9, 2, 3);
        sheep(x, 9, 6, 7);
        s.due("undo()", x.undo(), 1);
        weights(x, 9, 2, 3);
        sheep(x, 5, 6, 7);
        x.give(2, 60);
        s.due("undo() of what came behind it", x.undo(), 1);
        sheep(x, 5, 6, 7);
        s.due("undo()", x.undo(), 0);
        weights(x, 1, 2, 3);
        s.due("undo() of no more", x.undo(), NO);
        s.due("undo() of no more", x.undo(), NO);
        weights(x, 1, 2, 3);
        s.due("count(4)", x.count(4), 0);
    }

    private void undoEight() {
        s.of(23, "UNDONE is the latest of these (such by which nothing becomes another, too; the last 8 can be).");
        for (int changes = 7; changes <= 18; changes++) {
            SheepAndStones x = three();
            for (int k = 1; k <= changes; k++) {
                if (k % 2 == 0) {
                    x.give(k % 3, 20 + k);
                } else {
                    x.weigh(k % 3, k);
                }
            }
            int can = Math.min(8, changes);
            s.due("count(4) of " + changes, x.count(4), can);
            for (int k = can - 1; k >= 0; k--) {
                s.due("undo() of " + changes, x.undo(), k);
                s.due("count(4) of " + changes, x.count(4), k);
            }
            s.due("undo() of a ninth", x.undo(), NO);
            SheepAndStones y = three();
            for (int k = 1; k <= changes - 8; k++) {
                if (k % 2 == 0) {
                    y.give(k % 3, 20 + k);
                } else {
                    y.weigh(k % 3, k);
                }
            }
            for (int i = 0; i < 3; i++) {
                s.due("stone(" + i + ", 2) of " + changes, x.stone(i, 2), y.stone(i, 2));
                s.due("engine(" + i + ", 1) of " + changes, x.engine(i, 1), y.engine(i, 1));
            }
        }
    }

    private void undoSame() {
        s.of(23, "such by which nothing becomes another, too");
        SheepAndStones x = three();
        x.weigh(0, 4);
        for (int k = 0; k < 4; k++) {
            x.weigh(1, 2);
            x.give(1, 6);
        }
        s.due("count(4)", x.count(4), 8);
        for (int k = 7; k >= 0; k--) {
            s.due("undo()", x.undo(), k);
            weights(x, 4, 2, 3);
            sheep(x, 5, 6, 7);
        }
        s.due("undo() of the ninth last", x.undo(), NO);
        weights(x, 4, 2, 3);
    }

    private void keep() {
        s.of(24, "2 at most.");
        s.of(24, "KEPT: how many. FULL.");
        SheepAndStones x = three();
        s.due("count(5)", x.count(5), 0);
        s.due("keep()", x.keep(), 1);
        s.due("count(5)", x.count(5), 1);
        s.due("keep() of the same", x.keep(), 2);
        s.due("count(5)", x.count(5), 2);
        x.weigh(0, 9);
        s.due("keep() of a third", x.keep(), FULL);
        s.due("keep() of a third", x.keep(), FULL);
        s.due("count(5)", x.count(5), 2);
        weights(x, 9, 2, 3);
        s.due("count(4): as it was", x.count(4), 1);
        s.due("back()", x.back(), 1);
        weights(x, 1, 2, 3);
        x.weigh(1, 10);
        s.due("keep(): there is room", x.keep(), 2);
        s.due("keep() of a third", x.keep(), FULL);
        s.due("undo() of what is ahead of KEPT", x.undo(), 0);
        weights(x, 1, 2, 3);
        s.due("back()", x.back(), 1);
        weights(x, 1, 10, 3);
        s.due("back()", x.back(), 0);
        weights(x, 1, 2, 3);
    }

    private void keptAsTheyStand() {
        s.of(24, "KEPT are all of these as they stand (not THE TEXT):");
        SheepAndStones x = three();
        int length = x.count(6);
        for (int i = 0; i < 3; i++) {
            x.weigh(i, 11 + i);
            x.give(i, 21 + i);
        }
        x.keep();
        for (int i = 0; i < 3; i++) {
            x.weigh(i, 1);
            x.give(i, 1);
        }
        Check.tell(x, "m1;x");
        s.due("back()", x.back(), 0);
        weights(x, 11, 12, 13);
        sheep(x, 21, 22, 23);
        s.due("THE TEXT is not KEPT", x.count(6), length + 4);
        s.due("THE TEXT is not KEPT", x.fault(), length + 3);
        x.keep();
        x.wipe();
        s.due("back()", x.back(), 0);
        s.due("THE TEXT is not KEPT", x.count(6), 0);
    }

    private void back() {
        s.of(25, "As KEPT last (it is KEPT no more then): how many are left; nothing is UNDONE then. NO.");
        SheepAndStones x = three();
        s.due("back() of nothing", x.back(), NO);
        x.weigh(0, 4);
        s.due("back() of nothing", x.back(), NO);
        s.due("count(4): as it was", x.count(4), 1);
        weights(x, 4, 2, 3);
        x.keep();
        x.weigh(0, 5);
        x.keep();
        x.weigh(0, 6);
        s.due("count(4)", x.count(4), 3);
        s.due("back()", x.back(), 1);
        weights(x, 5, 2, 3);
        s.due("count(5)", x.count(5), 1);
        s.due("count(4): nothing can be UNDONE", x.count(4), 0);
        s.due("undo()", x.undo(), NO);
        weights(x, 5, 2, 3);
        x.give(0, 9);
        s.due("undo() of what is behind it", x.undo(), 0);
        x.give(0, 9);
        s.due("back()", x.back(), 0);
        weights(x, 4, 2, 3);
        sheep(x, 5, 6, 7);
        s.due("count(5)", x.count(5), 0);
        s.due("undo()", x.undo(), NO);
        s.due("back() of no more", x.back(), NO);
        weights(x, 4, 2, 3);
        s.due("order(-1) as of what is laid", x.order(-1), SheepAndStones.NONE);
    }

    private void count() {
        s.of(26, "How many: 0 ENGINES, 1 STONES, 2 B, 3 days of rain as told (one told twice: two), 4 that can be"
            + " UNDONE, 5 KEPT, 6 bytes of THE TEXT. BAD.");
        counts(new SheepAndStones(), 1, 2, 2, 0, 0, 0, 0);
        counts(Check.laid("e1,1,0;"), 1, 0, 2, 0, 0, 0, 7);
        counts(Check.laid("e1,1,0;e1,1,0;m0;r7;r7;"), 2, 0, 0, 2, 0, 0, 23);
        String most = "e1,1,0;e1,1,0;e1,1,0;" + "s0,1,1;".repeat(6) + "m9;" + "r30;".repeat(6);
        SheepAndStones x = Check.laid(most + "m9;".repeat(70));
        counts(x, 3, 6, 9, 6, 0, 0, 300);
        for (int k = 0; k < 9; k++) {
            x.weigh(0, 1);
            x.keep();
        }
        counts(x, 3, 6, 9, 6, 8, 2, 300);
        x.wipe();
        counts(x, 3, 6, 9, 6, 8, 2, 0);
        Check.tell(x, "e1,1,0;");
        counts(x, 3, 6, 9, 6, 8, 2, 7);
        x.lay();
        counts(x, 1, 0, 2, 0, 0, 0, 7);
    }

    private void counts(SheepAndStones x, int... due) {
        for (int what = 0; what < due.length; what++) {
            s.due("count(" + what + ")", x.count(what), due[what]);
        }
    }

    private void countBounds() {
        s.of(26, "6 bytes of THE TEXT. BAD.");
        SheepAndStones x = new SheepAndStones();
        for (int what : new int[] {-1, 7, -2, 8, Integer.MIN_VALUE, Integer.MAX_VALUE}) {
            s.due("count(" + what + ")", x.count(what), BAD);
        }
    }
}
