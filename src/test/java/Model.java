import java.math.BigInteger;
import java.util.ArrayDeque;
import java.util.ArrayList;
import java.util.Arrays;
import java.util.Collections;
import java.util.List;
import java.util.regex.Matcher;
import java.util.regex.Pattern;

/** The document written a second time, slowly and by other means: what ModelTest holds the class against. */
final class Model {
    private static final int BAD = -1, NO = -2, FULL = -3, NONE = -4;
    private static final Pattern ITEM = Pattern.compile("([a-z])([0-9]{1,2}(?:,[0-9]{1,2})*);");

    private record Engine(int arm, int sheep, int kind, int eaten) {
        Engine withSheep(int s) {
            return new Engine(arm, s, kind, eaten);
        }

        Engine withEaten(int n) {
            return new Engine(arm, sheep, kind, n);
        }

        int sheepAt(int behind) {
            int s = sheep;
            for (int night = 0; night < behind; night++) {
                s = Math.max(0, s - eaten);
            }
            return s;
        }

        int far(int sheepNow, boolean wet, int w) {
            int pull = arm * sheepNow;
            if (kind == 1 && wet) {
                pull /= 2;
            }
            return kind == 3 ? pull / (w * 2) + 3 : pull / w;
        }
    }

    private record Stone(int engine, int day, int weight) {
        Stone withWeight(int w) {
            return new Stone(engine, day, w);
        }
    }

    private static final class Told {
        List<Engine> engines = new ArrayList<>();
        List<Stone> stones = new ArrayList<>();
        int[] wall = {10, 10, 10, 10, 10, 10, 10, 10, 10, 10};
        int menders = 2;
        List<Integer> rain = new ArrayList<>();

        Told copy() {
            Told t = new Told();
            t.engines = new ArrayList<>(engines);
            t.stones = new ArrayList<>(stones);
            t.wall = wall.clone();
            t.menders = menders;
            t.rain = new ArrayList<>(rain);
            return t;
        }

        int far(int i, int w) {
            Stone s = stones.get(i);
            Engine e = engines.get(s.engine);
            return e.far(e.sheepAt(s.day - 1), rain.contains(s.day), w);
        }
    }

    /** What a run of days leaves: strengths and rubble behind each day, and the breach. */
    private static final class Days {
        final int[][] cells = new int[31][];
        final int[] rubble = new int[31];
        int day = NONE;
        int cell = NONE;

        Days(Told t) {
            int[] now = t.wall.clone();
            int lies = 0;
            cells[0] = now.clone();
            for (int d = 1; d <= 30; d++) {
                for (int i = 0; i < t.stones.size(); i++) {
                    Stone s = t.stones.get(i);
                    int far = t.far(i, s.weight);
                    int c = far - 3;
                    if (s.day != d || c < 0 || c > 9) {
                        continue;
                    }
                    int blow = (s.weight + far) / 2;
                    now[c] = Math.max(now[c] - blow, 0);
                    if (t.engines.get(s.engine).kind == 2 && c < 9) {
                        now[c + 1] = Math.max(now[c + 1] - blow / 2, 0);
                    }
                    lies += s.weight;
                }
                for (int c = 9; c >= 0 && (day == NONE || day == d); c--) {
                    if (now[c] == 0) {
                        day = d;
                        cell = c;
                    }
                }
                for (int b = 0; b < t.menders && lies > 0; b++) {
                    int best = -1;
                    for (int c = 9; c >= 0; c--) {
                        if (now[c] < t.wall[c] && (best < 0 || now[c] <= now[best])) {
                            best = c;
                        }
                    }
                    if (best >= 0) {
                        now[best]++;
                        lies--;
                    }
                }
                cells[d] = now.clone();
                rubble[d] = lies;
            }
        }

        boolean by(int d) {
            return day != NONE && day <= d;
        }
    }

    private final StringBuilder text = new StringBuilder();
    private Told told = new Told();
    private final List<Told> undoable = new ArrayList<>();
    private final ArrayDeque<Told> kept = new ArrayDeque<>();

    Model() {
        told.engines.add(new Engine(5, 20, 0, 1));
        told.stones.add(new Stone(0, 1, 10));
        told.stones.add(new Stone(0, 2, 10));
    }

    private static boolean in(int v, int low, int high) {
        return low <= v && v <= high;
    }

    private boolean isEngine(int e) {
        return in(e, 0, told.engines.size() - 1);
    }

    private boolean isStone(int i) {
        return in(i, 0, told.stones.size() - 1);
    }

    long write(int n, long v) {
        if (!in(n, 1, 8)) {
            return BAD;
        }
        if (text.length() + n > 300) {
            return FULL;
        }
        byte[] all = java.nio.ByteBuffer.allocate(8).putLong(v).array();
        for (int k = 8 - n; k < 8; k++) {
            text.append((char) (all[k] & 255));
        }
        return text.length();
    }

    long wipe() {
        int was = text.length();
        text.setLength(0);
        return was;
    }

    /** The fault's place, or NONE; t has what is told ahead of it. */
    private int read(Told t) {
        Matcher m = ITEM.matcher(text);
        int at = 0;
        while (at < text.length()) {
            m.region(at, text.length());
            if (!m.lookingAt() || !take(t, m.group(1).charAt(0), m.group(2).split(","))) {
                return at;
            }
            at = m.end();
        }
        return NONE;
    }

    private static boolean take(Told t, char letter, String[] parts) {
        int[] n = Arrays.stream(parts).mapToInt(Integer::parseInt).toArray();
        boolean engine = in(n[0], 0, t.engines.size() - 1);
        String form = "" + letter + n.length;
        if (form.equals("e3") && t.engines.size() < 3 && in(n[0], 1, 9) && n[1] <= 60 && n[2] <= 3) {
            return t.engines.add(new Engine(n[0], n[1], n[2], 1));
        }
        if (form.equals("s3") && t.stones.size() < 6 && engine && in(n[1], 1, 30) && in(n[2], 1, 20)) {
            return t.stones.add(new Stone(n[0], n[1], n[2]));
        }
        if (form.equals("w2") && n[0] <= 9 && n[1] <= 60) {
            t.wall[n[0]] = n[1];
            return true;
        }
        if (form.equals("m1") && n[0] <= 9) {
            t.menders = n[0];
            return true;
        }
        if (form.equals("r1") && t.rain.size() < 6 && in(n[0], 1, 30)) {
            return t.rain.add(n[0]);
        }
        if (form.equals("f2") && engine && n[1] <= 9) {
            t.engines.set(n[0], t.engines.get(n[0]).withEaten(n[1]));
            return true;
        }
        return false;
    }

    long fault() {
        return read(new Told());
    }

    long lay() {
        Told t = new Told();
        if (read(t) != NONE || t.engines.isEmpty()) {
            return NO;
        }
        told = t;
        undoable.clear();
        kept.clear();
        return t.engines.size();
    }

    long engine(int e, int what) {
        if (!isEngine(e) || !in(what, 0, 3)) {
            return BAD;
        }
        Engine n = told.engines.get(e);
        return new int[] {n.arm, n.sheep, n.kind, n.eaten}[what];
    }

    long stone(int i, int what) {
        if (!isStone(i) || !in(what, 0, 5)) {
            return BAD;
        }
        Stone s = told.stones.get(i);
        int far = told.far(i, s.weight);
        return new int[] {s.engine, s.day, s.weight, far, in(far, 3, 12) ? far - 3 : NONE, (s.weight + far) / 2}[what];
    }

    long sheep(int e, int d) {
        return isEngine(e) && in(d, 0, 30) ? told.engines.get(e).sheepAt(d) : BAD;
    }

    long cell(int c, int d) {
        return in(c, 0, 9) && in(d, 0, 30) ? new Days(told).cells[d][c] : BAD;
    }

    long rubble(int d) {
        return in(d, 0, 30) ? new Days(told).rubble[d] : BAD;
    }

    long breach(int what) {
        return what == 0 ? new Days(told).day : what == 1 ? new Days(told).cell : BAD;
    }

    long order(int i) {
        if (i != -1 && !isStone(i)) {
            return BAD;
        }
        List<Integer> thrown = new ArrayList<>();
        for (int k = 0; k < told.stones.size(); k++) {
            thrown.add(k);
        }
        thrown.sort((a, b) -> Integer.compare(told.stones.get(a).day, told.stones.get(b).day));
        List<List<Integer>> orders = new ArrayList<>();
        List<Integer> weights = new ArrayList<>();
        told.stones.forEach(s -> weights.add(s.weight));
        Collections.sort(weights);
        permute(weights, new ArrayList<>(), orders);
        int best = NONE;
        List<Integer> by = null;
        for (List<Integer> o : orders) {
            Told t = told.copy();
            for (int k = 0; k < o.size(); k++) {
                t.stones.set(thrown.get(k), t.stones.get(thrown.get(k)).withWeight(o.get(k)));
            }
            int day = new Days(t).day;
            if (day != NONE && (best == NONE || day < best)) {
                best = day;
                by = o;
            }
        }
        return best == NONE || i == -1 ? best : by.get(i);
    }

    /** All orders, the lowest weights first. */
    private static void permute(List<Integer> left, List<Integer> ahead, List<List<Integer>> out) {
        if (left.isEmpty()) {
            out.add(new ArrayList<>(ahead));
        }
        for (int k = 0; k < left.size(); k++) {
            if (k > 0 && left.get(k).equals(left.get(k - 1))) {
                continue;
            }
            List<Integer> rest = new ArrayList<>(left);
            ahead.add(rest.remove(k));
            permute(rest, ahead, out);
            ahead.remove(ahead.size() - 1);
        }
    }

    long ballast(int e, int d) {
        if (!isEngine(e) || !in(d, 1, 30)) {
            return BAD;
        }
        for (int s = 0; s <= 60; s++) {
            Told t = told.copy();
            t.engines.set(e, t.engines.get(e).withSheep(s));
            if (new Days(t).by(d)) {
                return s;
            }
        }
        return NONE;
    }

    long hold(int d) {
        if (!in(d, 1, 30)) {
            return BAD;
        }
        for (int b = 0; b <= 9; b++) {
            Told t = told.copy();
            t.menders = b;
            if (!new Days(t).by(d)) {
                return b;
            }
        }
        return NONE;
    }

    long meal(int e, int d) {
        if (!isEngine(e) || !in(d, 1, 30)) {
            return BAD;
        }
        int best = NONE;
        for (int n = 0; n <= 9; n++) {
            Told t = told.copy();
            t.engines.set(e, t.engines.get(e).withEaten(n));
            best = new Days(t).by(d) ? n : best;
        }
        return best;
    }

    long aim(int i, int c) {
        if (!isStone(i) || !in(c, 0, 9)) {
            return BAD;
        }
        int best = NONE;
        for (int w = 20; w >= 1; w--) {
            best = told.far(i, w) == c + 3 ? w : best;
        }
        return best;
    }

    long crater(int w, int c) {
        if (!in(w, 1, 20) || !in(c, 0, 9)) {
            return BAD;
        }
        int bits = 0;
        for (int e = 0; e < told.engines.size(); e++) {
            bits += least(e, w, c) == NONE ? 0 : 1 << e;
        }
        return bits;
    }

    long least(int e, int w, int c) {
        if (!isEngine(e) || !in(w, 1, 20) || !in(c, 0, 9)) {
            return BAD;
        }
        int best = NONE;
        for (int s = 60; s >= 0; s--) {
            best = told.engines.get(e).far(s, false, w) - 3 == c ? s : best;
        }
        return best;
    }

    long odds(int h, int b, int x, int n, int part) {
        if (!in(h, 1, 40) || !in(b, 1, 20) || !in(x, 0, 10) || !in(n, 0, 9) || !in(part, 0, 1)) {
            return BAD;
        }
        // every run of hits and misses, one by one
        BigInteger sum = BigInteger.ZERO;
        for (int run = 0; run < 1 << n; run++) {
            int strength = h;
            long ways = 1;
            boolean breached = false;
            for (int d = 0; d < n; d++) {
                boolean hit = (run >> d & 1) == 1;
                strength = hit ? Math.max(0, strength - b) : Math.min(h, strength + 1);
                ways *= hit ? x : 10 - x;
                breached |= strength == 0;
            }
            sum = breached ? sum.add(BigInteger.valueOf(ways)) : sum;
        }
        BigInteger of = BigInteger.TEN.pow(n);
        BigInteger divisor = sum.gcd(of);
        return (part == 0 ? sum : of).divide(divisor).longValueExact();
    }

    long year(int z, int what) {
        if (!in(z, 0, 9999) || !in(what, 0, 1)) {
            return BAD;
        }
        Told t = told.copy();
        for (int i = 0; i < t.stones.size(); i++) {
            BigInteger x = BigInteger.valueOf(7919L * z + 6151L * i + 1);
            int w = x.pow(2).mod(BigInteger.valueOf(65521)).intValueExact() % 20 + 1;
            t.stones.set(i, t.stones.get(i).withWeight(w));
        }
        Days days = new Days(t);
        return what == 0 ? days.day : Arrays.stream(days.cells[30]).sum();
    }

    private void remember() {
        undoable.add(told.copy());
        if (undoable.size() > 8) {
            undoable.remove(0);
        }
    }

    long weigh(int i, int w) {
        if (!isStone(i) || !in(w, 1, 20)) {
            return BAD;
        }
        remember();
        return told.stones.set(i, told.stones.get(i).withWeight(w)).weight;
    }

    long give(int e, int s) {
        if (!isEngine(e) || !in(s, 0, 60)) {
            return BAD;
        }
        remember();
        return told.engines.set(e, told.engines.get(e).withSheep(s)).sheep;
    }

    long undo() {
        if (undoable.isEmpty()) {
            return NO;
        }
        told = undoable.remove(undoable.size() - 1);
        return undoable.size();
    }

    long keep() {
        if (kept.size() == 2) {
            return FULL;
        }
        kept.push(told.copy());
        return kept.size();
    }

    long back() {
        if (kept.isEmpty()) {
            return NO;
        }
        told = kept.pop();
        undoable.clear();
        return kept.size();
    }

    long count(int what) {
        int[] counts = {told.engines.size(), told.stones.size(), told.menders, told.rain.size(),
            undoable.size(), kept.size(), text.length()};
        return in(what, 0, 6) ? counts[what] : BAD;
    }
}
