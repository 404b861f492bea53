/** Promises 21 to 26: other weights and sheep, undone, kept, counted. */
public final class ChangesTest {
    private static final Check check = new Check("ChangesTest");
    private static final int BAD = SheepAndStones.BAD;
    private static final int NO = SheepAndStones.NO;
    private static final int FULL = SheepAndStones.FULL;

    public static void main(String[] args) {
        weigh();
        give();
        undo();
        undoLast();
        undoMixed();
        keep();
        back();
        count();
        check.end();
    }

    private static void weigh() {
        SheepAndStones x = new SheepAndStones();
        check.due("weigh(0, 1)", x.weigh(0, 1), 10);
        check.due("weigh(0, 20)", x.weigh(0, 20), 1);
        check.due("weigh(0, 20)", x.weigh(0, 20), 20);
        check.due("weigh: the other stays", x.stone(1, 2), 10);
        check.due("weigh: far", x.stone(0, 3), 5);
        check.due("weigh: three to undo", x.count(4), 3);
        int[][] bad = {{-1, 1}, {2, 1}, {0, 0}, {0, 21}, {0, -1}, {Integer.MAX_VALUE, 1}, {0, Integer.MIN_VALUE}};
        for (int[] call : bad) {
            check.due("weigh(" + call[0] + ", " + call[1] + ")", x.weigh(call[0], call[1]), BAD);
        }
        check.due("weigh: nothing changes", x.stone(0, 2), 20);
        check.due("weigh: nothing more to undo", x.count(4), 3);
    }

    private static void give() {
        SheepAndStones x = new SheepAndStones();
        check.due("give(0, 0)", x.give(0, 0), 20);
        check.due("give(0, 60)", x.give(0, 60), 0);
        check.due("give(0, 60)", x.give(0, 60), 60);
        check.due("give: far", x.stone(0, 3), 30);
        check.due("give: three to undo", x.count(4), 3);
        int[][] bad = {{-1, 1}, {1, 1}, {0, -1}, {0, 61}, {Integer.MIN_VALUE, 1}, {0, Integer.MAX_VALUE}};
        for (int[] call : bad) {
            check.due("give(" + call[0] + ", " + call[1] + ")", x.give(call[0], call[1]), BAD);
        }
        check.due("give: nothing changes", x.engine(0, 1), 60);
        check.due("give: nothing more to undo", x.count(4), 3);
    }

    private static void undo() {
        SheepAndStones x = new SheepAndStones();
        check.due("undo: nothing", x.undo(), NO);
        x.weigh(1, 3);
        x.give(0, 3);
        x.weigh(1, 3);
        x.weigh(0, 4);
        check.due("undo", x.undo(), 3);
        check.due("undo: the weight", x.stone(0, 2), 10);
        check.due("undo: what changed nothing", x.undo(), 2);
        check.due("undo: the weight stays", x.stone(1, 2), 3);
        check.due("undo", x.undo(), 1);
        check.due("undo: the sheep", x.engine(0, 1), 20);
        check.due("undo: the other stays", x.stone(1, 2), 3);
        check.due("undo", x.undo(), 0);
        check.due("undo: the weight", x.stone(1, 2), 10);
        check.due("undo: nothing more", x.undo(), NO);
    }

    private static void undoLast() {
        SheepAndStones x = new SheepAndStones();
        for (int w = 1; w <= 12; w++) {
            x.weigh(0, w);
            check.due("undo: " + w + " changes", x.count(4), Math.min(w, 8));
        }
        for (int w = 11; w >= 4; w--) {
            check.due("undo: left behind " + w, x.undo(), w - 4);
            check.due("undo: as it was", x.stone(0, 2), w);
        }
        check.due("undo: the last eight alone", x.undo(), NO);
        check.due("undo: the fifth last stays", x.stone(0, 2), 4);
    }

    private static void undoMixed() {
        SheepAndStones x = Check.laid("e1,1,0;e2,2,0;s0,1,1;s1,2,2;s1,3,3;");
        x.weigh(2, 9);
        x.give(1, 10);
        for (int k = 0; k < 3; k++) {
            x.weigh(k, 11 + k);
            x.give(k % 2, 21 + k);
        }
        check.due("undo: eight", x.count(4), 8);
        x.give(1, 31);
        x.weigh(0, 17);
        int[][] behind = {{11, 12, 13, 23, 31}, {11, 12, 13, 23, 22}, {11, 12, 13, 21, 22}, {11, 12, 9, 21, 22},
            {11, 12, 9, 21, 10}, {11, 2, 9, 21, 10}, {11, 2, 9, 1, 10}, {1, 2, 9, 1, 10}};
        for (int k = 0; k < 8; k++) {
            check.due("undo: the latest", x.undo(), 7 - k);
            for (int i = 0; i < 3; i++) {
                check.due("undo " + k + ": stone " + i, x.stone(i, 2), behind[k][i]);
            }
            check.due("undo " + k + ": sheep", x.engine(0, 1), behind[k][3]);
            check.due("undo " + k + ": sheep", x.engine(1, 1), behind[k][4]);
        }
        check.due("undo: no ninth", x.undo(), NO);
    }

    private static void keep() {
        SheepAndStones x = new SheepAndStones();
        x.weigh(0, 1);
        check.due("keep", x.keep(), 1);
        check.due("keep: still to undo", x.count(4), 1);
        check.due("keep", x.keep(), 2);
        x.give(0, 2);
        check.due("keep: full", x.keep(), FULL);
        check.due("keep: full", x.count(5), 2);
        check.due("keep: undo goes on", x.undo(), 1);
        check.due("back", x.back(), 1);
        check.due("back", x.stone(0, 2), 1);
        check.due("keep: room again", x.keep(), 2);
    }

    private static void back() {
        SheepAndStones x = Check.laid("e1,1,0;e2,2,0;s0,1,1;s1,2,2;s1,3,3;");
        check.due("back: nothing", x.back(), NO);
        x.weigh(2, 20);
        x.give(1, 9);
        x.keep();
        x.weigh(0, 5);
        x.give(0, 8);
        x.keep();
        x.weigh(1, 7);
        Check.tell(x, "m1;");
        check.due("back", x.back(), 1);
        check.due("back: nothing to undo", x.count(4), 0);
        check.due("back: nothing to undo", x.undo(), NO);
        check.due("back: weights", x.stone(0, 2), 5);
        check.due("back: weights", x.stone(1, 2), 2);
        check.due("back: weights", x.stone(2, 2), 20);
        check.due("back: sheep", x.engine(0, 1), 8);
        check.due("back: sheep", x.engine(1, 1), 9);
        check.due("back: the text stays", x.count(6), 38);
        x.weigh(1, 6);
        check.due("back: changes anew", x.count(4), 1);
        check.due("back", x.back(), 0);
        check.due("back: weights", x.stone(0, 2), 1);
        check.due("back: weights", x.stone(1, 2), 2);
        check.due("back: sheep", x.engine(0, 1), 1);
        check.due("back: sheep", x.engine(1, 1), 9);
        check.due("back: no more", x.back(), NO);
        x.weigh(1, 6);
        check.due("back: NO changes nothing", x.back(), NO);
        check.due("back: NO leaves what can be undone", x.count(4), 1);
    }

    private static void count() {
        SheepAndStones x = Check.laid("e1,1,0;e1,1,0;e1,1,0;s0,1,1;m0;m7;r3;r3;r30;r1;");
        x.weigh(0, 2);
        x.give(0, 2);
        x.keep();
        int[] counts = {3, 1, 7, 4, 2, 1, 47};
        for (int what = 0; what < counts.length; what++) {
            check.due("count(" + what + ")", x.count(what), counts[what]);
        }
        for (int what : new int[] {-1, 7, Integer.MIN_VALUE, Integer.MAX_VALUE}) {
            check.due("count(" + what + ")", x.count(what), BAD);
        }
    }
}
