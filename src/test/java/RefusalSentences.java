import java.util.ArrayList;
import java.util.Arrays;
import java.util.List;

/** Sentences of BAD, NO, NONE and FULL: every call at and beside its bounds, and what stands behind a refused one. */
final class RefusalSentences {
    private static final int BAD = SheepAndStones.BAD, NO = SheepAndStones.NO;
    private static final int FULL = SheepAndStones.FULL, NONE = SheepAndStones.NONE;
    // what is told once more at the end of some of these is the text that lay() would take
    private static final String[] STATES = {"", "e1,5,0;", "e9,60,3;s0,30,20;w0,0;",
        "e5,40,1;e7,33,2;e9,60,3;s0,2,15;s1,2,18;s2,5,14;s1,9,20;s0,9,11;s2,14,7;w0,20;w3,25;w9,8;m3;r2;r9;f0,2;f2,3;"};

    private interface Call {
        long on(SheepAndStones x, int[] a);
    }

    private record Face(int promise, String name, Call call, int[]... ranges) {
    }

    private final Sentences s;

    RefusalSentences(Sentences s) {
        this.s = s;
    }

    void run() {
        for (String state : STATES) {
            for (int changes : new int[] {0, 3, 11}) {
                bounds(state, changes);
                nothingChanges(state, changes);
                triedAsLaid(state, changes);
            }
        }
        badFirst();
        notAsThingsStand();
        full();
    }

    /** All calls that take numbers, and the bounds of these as a siege of so many engines and stones has them. */
    private static List<Face> faces(int engines, int stones) {
        int[] e = {0, engines - 1};
        int[] i = {0, stones - 1};
        int[] c = {0, 9};
        int[] w = {1, 20};
        int[] d = {1, 30};
        int[] behind = {0, 30};
        int[] two = {0, 1};
        return List.of(
            new Face(6, "engine", (x, a) -> x.engine(a[0], a[1]), e, new int[] {0, 3}),
            new Face(7, "stone", (x, a) -> x.stone(a[0], a[1]), i, new int[] {0, 5}),
            new Face(8, "sheep", (x, a) -> x.sheep(a[0], a[1]), e, behind),
            new Face(9, "cell", (x, a) -> x.cell(a[0], a[1]), c, behind),
            new Face(10, "rubble", (x, a) -> x.rubble(a[0]), behind),
            new Face(11, "breach", (x, a) -> x.breach(a[0]), two),
            new Face(12, "order", (x, a) -> x.order(a[0]), new int[] {-1, stones - 1}),
            new Face(13, "ballast", (x, a) -> x.ballast(a[0], a[1]), e, d),
            new Face(14, "hold", (x, a) -> x.hold(a[0]), d),
            new Face(15, "meal", (x, a) -> x.meal(a[0], a[1]), e, d),
            new Face(16, "aim", (x, a) -> x.aim(a[0], a[1]), i, c),
            new Face(17, "crater", (x, a) -> x.crater(a[0], a[1]), w, c),
            new Face(18, "least", (x, a) -> x.least(a[0], a[1], a[2]), e, w, c),
            new Face(19, "odds", (x, a) -> x.odds(a[0], a[1], a[2], a[3], a[4]), new int[] {1, 40}, w,
                new int[] {0, 10}, new int[] {0, 9}, two),
            new Face(20, "year", (x, a) -> x.year(a[0], a[1]), new int[] {0, 9999}, two),
            new Face(21, "weigh", (x, a) -> x.weigh(a[0], a[1]), i, w),
            new Face(22, "give", (x, a) -> x.give(a[0], a[1]), e, new int[] {0, 60}),
            new Face(26, "count", (x, a) -> x.count(a[0]), new int[] {0, 6}));
    }

    /** An object in a state of some depth: changed, kept and with a text of its own. */
    private static SheepAndStones made(String text, int changes) {
        SheepAndStones x = text.isEmpty() ? new SheepAndStones() : Check.laid(text);
        for (int k = 0; k < changes; k++) {
            x.give(0, 7 * k % 61);
            if (x.count(1) > 0) {
                x.weigh(k % x.count(1), 3 * k % 20 + 1);
            }
            if (k % 2 == 1) {
                x.keep();
            }
        }
        return x;
    }

    private static List<Face> faces(SheepAndStones x) {
        return faces(x.count(0), x.count(1));
    }

    /** Arguments that are all at their lower or upper bounds. */
    private static int[] side(Face f, int side) {
        int[] a = new int[f.ranges.length];
        for (int k = 0; k < a.length; k++) {
            a[k] = f.ranges[k][side];
        }
        return a;
    }

    private static boolean within(Face f, int[] a) {
        boolean so = true;
        for (int k = 0; k < a.length; k++) {
            so &= a[k] >= f.ranges[k][0] && a[k] <= f.ranges[k][1];
        }
        return so;
    }

    /** Both sides as they are, and with each argument in turn beside its bounds or at the ends of int. */
    private static List<int[]> arguments(Face f) {
        List<int[]> all = new ArrayList<>();
        for (int side = 0; side < 2; side++) {
            all.add(side(f, side));
            for (int k = 0; k < f.ranges.length; k++) {
                for (int n : new int[] {f.ranges[k][0] - 1, f.ranges[k][1] + 1, Integer.MIN_VALUE, Integer.MAX_VALUE}) {
                    int[] a = side(f, side);
                    a[k] = n;
                    all.add(a);
                }
            }
        }
        return all;
    }

    private void bounds(String state, int changes) {
        for (Face f : faces(made(state, changes))) {
            s.of(f.promise, "BAD: a number is none that is told (ENGINES, STONES: such as there are; cells 0 to 9).");
            for (int[] a : arguments(f)) {
                long got = f.call.on(made(state, changes), a);
                String call = f.name + Arrays.toString(a) + " on \"" + state + "\"";
                s.holds(call + " answered " + got, (got != BAD) == within(f, a));
            }
        }
    }

    /** Refused calls and calls that only ask: an object on which they were made answers as one on which they were not. */
    private void nothingChanges(String state, int changes) {
        List<Long> due = Answers.toTheEnd(made(state, changes));
        for (Face f : faces(made(state, changes))) {
            s.of(f.promise, "nothing changes then.");
            boolean asks = !f.name.equals("weigh") && !f.name.equals("give");
            for (int[] a : arguments(f)) {
                SheepAndStones x = made(state, changes);
                if (asks || !within(f, a)) {
                    f.call.on(x, a);
                    s.holds("behind " + f.name + Arrays.toString(a), Answers.toTheEnd(x).equals(due));
                }
            }
        }
        SheepAndStones x = made(state, changes);
        s.of(2, "nothing changes then.");
        for (int n : new int[] {0, 9, -1, Integer.MIN_VALUE, Integer.MAX_VALUE}) {
            s.due("write(" + n + ")", x.write(n, -1L), BAD);
        }
        s.holds("behind a BAD write", Answers.toTheEnd(x).equals(due));
        x = made(state, changes);
        s.of(4, "nothing changes then.");
        x.fault();
        s.holds("behind fault()", Answers.toTheEnd(x).equals(due));
    }

    /** A text that is read, but not laid, is nothing to what is tried on the siege. */
    private void triedAsLaid(String state, int changes) {
        String[] texts = {"", "e7,33,2;s0,1,1;w0,1;m7;", "e9,9,1;r1;x", "x"};
        for (String text : texts) {
            tried(13, state, changes, text, (x, a) -> x.ballast(0, a[0]), 9);
            tried(14, state, changes, text, (x, a) -> x.hold(a[0]), 9);
            tried(15, state, changes, text, (x, a) -> x.meal(0, a[0]), 9);
            tried(20, state, changes, text, (x, a) -> x.year(a[0], 1), 77);
        }
    }

    private void tried(int promise, String state, int changes, String text, Call call, int... a) {
        s.of(promise, "LAID is a TEXT without FAULT");
        SheepAndStones x = made(state, changes);
        x.wipe();
        Check.tell(x, text);
        x.fault();
        s.due("what is tried on \"" + state + "\" beside the text \"" + text + "\"", call.on(x, a),
            call.on(made(state, changes), a));
        s.holds("and what is tried then", Answers.tried(x).equals(Answers.tried(made(state, changes))));
    }

    private void badFirst() {
        s.of(2, "Of several the first in this order;");
        SheepAndStones x = new SheepAndStones();
        Check.tell(x, "x".repeat(300));
        s.due("write(0): BAD ahead of FULL", x.write(0, 0L), BAD);
        s.due("write(9): BAD ahead of FULL", x.write(9, 0L), BAD);
        s.due("write(1)", x.write(1, 0L), FULL);
        // nothing is breached, and nothing falls anywhere: each call answers NONE if its numbers are so
        x = Check.laid("e1,0,0;s0,1,20;w0,60;");
        for (Face f : faces(x)) {
            int[] due = side(f, 0);
            if (f.name.equals("least")) {
                due[1] = 20;
                due[2] = 9;
            }
            boolean none = f.promise >= 11 && f.promise <= 20 && f.call.on(x, due) == NONE;
            boolean answersNone = List.of("breach", "order", "ballast", "meal", "aim", "least", "year").contains(f.name);
            s.of(f.promise, "Of several the first in this order;");
            s.due(f.name + Arrays.toString(due) + " answers NONE", none ? 1 : 0, answersNone ? 1 : 0);
            for (int[] a : arguments(f)) {
                if (none && !within(f, a)) {
                    s.due(f.name + Arrays.toString(a) + ": BAD ahead of NONE", f.call.on(x, a), BAD);
                }
            }
        }
    }

    private void notAsThingsStand() {
        List<Long> due = Answers.toTheEnd(made(STATES[3], 0));
        s.of(5, "NO: not as things stand.");
        SheepAndStones x = new SheepAndStones();
        s.due("lay()", x.lay(), NO);
        s.holds("nothing changes behind lay()", Answers.toTheEnd(x).equals(Answers.toTheEnd(new SheepAndStones())));
        for (String text : new String[] {"m1;r1;w1,1;", "e1,1,0;e2,2,0;s0,1,1;w1,0;m9;r1;f0,0;x", "e1,1,0;s1,1,1;"}) {
            SheepAndStones y = made(STATES[3], 5);
            SheepAndStones z = made(STATES[3], 5);
            y.wipe();
            z.wipe();
            Check.tell(y, text);
            Check.tell(z, text);
            s.due("lay() of " + text, y.lay(), NO);
            s.holds("nothing changes behind lay() of " + text, Answers.toTheEnd(y).equals(Answers.toTheEnd(z)));
        }
        s.of(23, "NO: not as things stand.");
        x = made(STATES[3], 0);
        s.due("undo()", x.undo(), NO);
        s.holds("nothing changes behind undo()", Answers.toTheEnd(x).equals(due));
        s.of(25, "NO: not as things stand.");
        x = made(STATES[3], 0);
        s.due("back()", x.back(), NO);
        s.holds("nothing changes behind back()", Answers.toTheEnd(x).equals(due));
        x = made(STATES[3], 1);
        s.due("back() of changes", x.back(), NO);
        s.holds("nothing changes behind back()", Answers.toTheEnd(x).equals(Answers.toTheEnd(made(STATES[3], 1))));
        s.of(11, "NONE: there is none.");
        s.due("breach(0)", Check.laid("e1,0,0;").breach(0), NONE);
    }

    private void full() {
        s.of(24, "FULL. Of several the first in this order; nothing changes then.");
        SheepAndStones x = made(STATES[3], 11);
        s.due("keep()", x.keep(), FULL);
        s.holds("nothing changes behind keep()", Answers.toTheEnd(x).equals(Answers.toTheEnd(made(STATES[3], 11))));
        s.of(2, "FULL. Of several the first in this order; nothing changes then.");
        String most = STATES[3] + "m1;".repeat((300 - STATES[3].length()) / 3);
        for (int n = 301 - most.length(); n <= 8; n++) {
            x = made(most, 11);
            s.due("write(" + n + ") behind " + most.length(), x.write(n, -1L), FULL);
            s.holds("nothing changes behind write(" + n + ")",
                Answers.toTheEnd(x).equals(Answers.toTheEnd(made(most, 11))));
        }
    }
}
