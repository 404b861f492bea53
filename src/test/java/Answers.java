import java.util.ArrayList;
import java.util.List;

/** All that an object shows of itself, at fewer calls than it is used for. */
final class Answers {
    private Answers() {
    }

    /** What is laid, how it goes, and what is counted; some 120 calls. */
    static List<Long> of(SheepAndStones x) {
        List<Long> all = new ArrayList<>();
        laid(x, all);
        for (int d : new int[] {0, 1, 30}) {
            for (int c = 0; c < 10; c++) {
                all.add((long) x.cell(c, d));
            }
            all.add((long) x.rubble(d));
        }
        for (int what = 0; what < 7; what++) {
            all.add((long) x.count(what));
            all.add((long) x.order(what - 1));
        }
        all.add((long) x.breach(0));
        all.add((long) x.breach(1));
        all.add((long) x.fault());
        return all;
    }

    /** What is only tried or drawn on the siege: ballast, menders, meals and years. */
    static List<Long> tried(SheepAndStones x) {
        List<Long> all = new ArrayList<>();
        for (int d : new int[] {1, 2, 9, 30}) {
            for (int e = 0; e < 3; e++) {
                all.add((long) x.ballast(e, d));
                all.add((long) x.meal(e, d));
            }
            all.add((long) x.hold(d));
        }
        for (int z : new int[] {0, 1, 77, 9999}) {
            all.add((long) x.year(z, 0));
            all.add((long) x.year(z, 1));
        }
        return all;
    }

    /** All that and then, at the cost of what is kept, all that can be undone and kept, and the text. */
    static List<Long> toTheEnd(SheepAndStones x) {
        List<Long> all = of(x);
        for (int k = 0; k < 9; k++) {
            all.add((long) x.undo());
            changed(x, all);
        }
        for (int k = 0; k < 3; k++) {
            all.add((long) x.back());
            changed(x, all);
        }
        all.add((long) x.lay());
        laid(x, all);
        all.add((long) x.wipe());
        return all;
    }

    private static void laid(SheepAndStones x, List<Long> all) {
        for (int e = 0; e < 3; e++) {
            for (int what = 0; what < 4; what++) {
                all.add((long) x.engine(e, what));
            }
        }
        for (int i = 0; i < 6; i++) {
            for (int what = 0; what < 4; what++) {
                all.add((long) x.stone(i, what));
            }
        }
    }

    private static void changed(SheepAndStones x, List<Long> all) {
        for (int i = 0; i < 6; i++) {
            all.add((long) x.stone(i, 2));
        }
        for (int e = 0; e < 3; e++) {
            all.add((long) x.engine(e, 1));
        }
    }
}
