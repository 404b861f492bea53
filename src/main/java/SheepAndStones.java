import java.util.Arrays;

/** Sieges told in a text: engines balanced with sheep, stones, and a wall that is mended by night. */
public final class SheepAndStones {
    public static final int BAD = -1, NO = -2, FULL = -3, NONE = -4;

    private static final int TEXT_MOST = 300, BYTES_MOST = 8, NUMBERS_MOST = 3;
    private static final int ENGINES_MOST = 3, STONES_MOST = 6, RAINS_MOST = 6;
    private static final int CELLS = 10, DAYS = 30;
    private static final int ARM_MOST = 9, SHEEP_MOST = 60, WEIGHT_MOST = 20, STRENGTH_MOST = 60;
    private static final int MENDERS_MOST = 9, MEAL_MOST = 9;
    private static final int STRENGTH_UNTOLD = 10, MENDERS_UNTOLD = 2, MEAL_UNTOLD = 1;
    private static final int DAMP = 1, TWIN = 2, FROZEN = 3;
    private static final int FLOWN_OVER = 3, FROZEN_GAIN = 3;
    private static final int UNDOABLE_MOST = 8, KEPT_MOST = 2;
    private static final int ODDS_STRENGTH_MOST = 40, ODDS_DAYS_MOST = 9, TENTHS = 10;
    private static final int YEARS = 10000, DRAW_MODULUS = 65521;
    private static final int ORDERS_BOUND = 1000, DIVISIONS_BOUND = 100;

    private final Text text = new Text();
    private final Plan plan = new Plan();
    /** Takes what is only tried, so that the siege itself stays as it is. */
    private final Plan scratch = new Plan();
    private final Siege siege = new Siege();
    private final BestOrder bestOrder = new BestOrder();
    private final Changes changes = new Changes();
    private final Chances chances = new Chances();

    public SheepAndStones() {
        plan.clear();
        plan.addEngine(5, 20, 0);
        plan.addStone(0, 1, 10);
        plan.addStone(0, 2, 10);
    }

    // ---- sieges

    public int write(int n, long v) {
        if (!within(n, 1, BYTES_MOST)) {
            return BAD;
        }
        if (text.length + n > TEXT_MOST) {
            return FULL;
        }
        for (int left = n - 1; left >= 0; left--) {
            text.append((int) ((v >>> (8 * left)) & 255L));
        }
        return text.length;
    }

    public int wipe() {
        int was = text.length;
        text.length = 0;
        return was;
    }

    public int fault() {
        return text.firstFault();
    }

    public int lay() {
        if (text.firstFault() != NONE || text.plan.engines == 0) {
            return NO;
        }
        plan.copyFrom(text.plan);
        changes.clear();
        bestOrder.forget();
        return plan.engines;
    }

    public int engine(int e, int what) {
        if (!plan.hasEngine(e)) {
            return BAD;
        }
        switch (what) {
            case 0:
                return plan.arm[e];
            case 1:
                return plan.flock[e];
            case 2:
                return plan.kind[e];
            case 3:
                return plan.eaten[e];
            default:
                return BAD;
        }
    }

    public int stone(int i, int what) {
        if (!plan.hasStone(i)) {
            return BAD;
        }
        int far = plan.farOf(i, plan.weight[i]);
        switch (what) {
            case 0:
                return plan.thrower[i];
            case 1:
                return plan.day[i];
            case 2:
                return plan.weight[i];
            case 3:
                return far;
            case 4:
                return cellAt(far);
            case 5:
                return blowOf(plan.weight[i], far);
            default:
                return BAD;
        }
    }

    // ---- days

    public int sheep(int e, int d) {
        if (!plan.hasEngine(e) || !within(d, 0, DAYS)) {
            return BAD;
        }
        return plan.sheepBehind(e, d);
    }

    public int cell(int c, int d) {
        if (!isCell(c) || !within(d, 0, DAYS)) {
            return BAD;
        }
        siege.run(plan, d);
        return siege.wall.strength[c];
    }

    public int rubble(int d) {
        if (!within(d, 0, DAYS)) {
            return BAD;
        }
        siege.run(plan, d);
        return siege.wall.rubble;
    }

    public int breach(int what) {
        if (!within(what, 0, 1)) {
            return BAD;
        }
        siege.run(plan, DAYS);
        return what == 0 ? siege.breachDay : siege.breachCell;
    }

    // ---- what should be

    public int order(int i) {
        if (i != -1 && !plan.hasStone(i)) {
            return BAD;
        }
        bestOrder.find(plan);
        if (bestOrder.day == NONE) {
            return NONE;
        }
        return i == -1 ? bestOrder.day : bestOrder.weights[i];
    }

    public int ballast(int e, int d) {
        if (!plan.hasEngine(e) || !within(d, 1, DAYS)) {
            return BAD;
        }
        scratch.copyFrom(plan);
        for (int s = 0; s <= SHEEP_MOST; s++) {
            scratch.flock[e] = s;
            if (siege.breachesBy(scratch, d)) {
                return s;
            }
        }
        return NONE;
    }

    public int hold(int d) {
        if (!within(d, 1, DAYS)) {
            return BAD;
        }
        scratch.copyFrom(plan);
        for (int b = 0; b <= MENDERS_MOST; b++) {
            scratch.menders = b;
            if (!siege.breachesBy(scratch, d)) {
                return b;
            }
        }
        return NONE;
    }

    public int meal(int e, int d) {
        if (!plan.hasEngine(e) || !within(d, 1, DAYS)) {
            return BAD;
        }
        scratch.copyFrom(plan);
        for (int n = MEAL_MOST; n >= 0; n--) {
            scratch.eaten[e] = n;
            if (siege.breachesBy(scratch, d)) {
                return n;
            }
        }
        return NONE;
    }

    public int aim(int i, int c) {
        if (!plan.hasStone(i) || !isCell(c)) {
            return BAD;
        }
        for (int w = 1; w <= WEIGHT_MOST; w++) {
            if (cellAt(plan.farOf(i, w)) == c) {
                return w;
            }
        }
        return NONE;
    }

    // ---- craters, odds

    public int crater(int w, int c) {
        if (!within(w, 1, WEIGHT_MOST) || !isCell(c)) {
            return BAD;
        }
        int engines = 0;
        for (int e = 0; e < plan.engines; e++) {
            if (plan.leastFlock(e, w, c) != NONE) {
                engines |= 1 << e;
            }
        }
        return engines;
    }

    public int least(int e, int w, int c) {
        if (!plan.hasEngine(e) || !within(w, 1, WEIGHT_MOST) || !isCell(c)) {
            return BAD;
        }
        return plan.leastFlock(e, w, c);
    }

    public long odds(int h, int b, int x, int n, int part) {
        if (!within(h, 1, ODDS_STRENGTH_MOST) || !within(b, 1, WEIGHT_MOST) || !within(x, 0, TENTHS)
                || !within(n, 0, ODDS_DAYS_MOST) || !within(part, 0, 1)) {
            return BAD;
        }
        chances.reckon(h, b, x, n);
        return part == 0 ? chances.above : chances.below;
    }

    public int year(int z, int what) {
        if (!within(z, 0, YEARS - 1) || !within(what, 0, 1)) {
            return BAD;
        }
        scratch.copyFrom(plan);
        for (int i = 0; i < scratch.stones; i++) {
            scratch.weight[i] = drawnWeight(z, i);
        }
        siege.run(scratch, DAYS);
        return what == 0 ? siege.breachDay : siege.wall.total();
    }

    // ---- changes

    public int weigh(int i, int w) {
        if (!plan.hasStone(i) || !within(w, 1, WEIGHT_MOST)) {
            return BAD;
        }
        int was = plan.weight[i];
        changes.note(true, i, was);
        plan.weight[i] = w;
        bestOrder.forget();
        return was;
    }

    public int give(int e, int s) {
        if (!plan.hasEngine(e) || !within(s, 0, SHEEP_MOST)) {
            return BAD;
        }
        int was = plan.flock[e];
        changes.note(false, e, was);
        plan.flock[e] = s;
        bestOrder.forget();
        return was;
    }

    public int undo() {
        if (changes.undoable == 0) {
            return NO;
        }
        changes.takeBack(plan);
        bestOrder.forget();
        return changes.undoable;
    }

    public int keep() {
        if (changes.kept >= KEPT_MOST) {
            return FULL;
        }
        changes.save(plan);
        return changes.kept;
    }

    public int back() {
        if (changes.kept == 0) {
            return NO;
        }
        changes.restore(plan);
        bestOrder.forget();
        return changes.kept;
    }

    public int count(int what) {
        switch (what) {
            case 0:
                return plan.engines;
            case 1:
                return plan.stones;
            case 2:
                return plan.menders;
            case 3:
                return plan.rains;
            case 4:
                return changes.undoable;
            case 5:
                return changes.kept;
            case 6:
                return text.length;
            default:
                return BAD;
        }
    }

    private static boolean within(int value, int low, int high) {
        return value >= low && value <= high;
    }

    private static boolean isCell(int c) {
        return c >= 0 && c < CELLS;
    }

    /** The cell into which a stone falls, or NONE if it falls beside the wall. */
    private static int cellAt(int far) {
        int c = far - FLOWN_OVER;
        return isCell(c) ? c : NONE;
    }

    private static int blowOf(int weight, int far) {
        return (weight + far) / 2;
    }

    private static int distance(int kind, int pull, int weight) {
        // no weight is below 1, but a divisor is looked at where it divides
        if (weight < 1) {
            return 0;
        }
        return kind == FROZEN ? pull / (2 * weight) + FROZEN_GAIN : pull / weight;
    }

    private static int drawnWeight(int z, int i) {
        long x = 7919L * z + 6151L * i + 1L;
        return (int) (x * x % DRAW_MODULUS % WEIGHT_MOST) + 1;
    }

    /** What a text tells: engines, stones, wall, menders, rain and meals. */
    private static final class Plan {
        private int engines;
        private final int[] arm = new int[ENGINES_MOST];
        private final int[] flock = new int[ENGINES_MOST];
        private final int[] kind = new int[ENGINES_MOST];
        private final int[] eaten = new int[ENGINES_MOST];
        private int stones;
        private final int[] thrower = new int[STONES_MOST];
        private final int[] day = new int[STONES_MOST];
        private final int[] weight = new int[STONES_MOST];
        private final int[] strength = new int[CELLS];
        private int menders;
        private int rains;
        private final int[] rain = new int[RAINS_MOST];

        private void clear() {
            engines = 0;
            stones = 0;
            rains = 0;
            menders = MENDERS_UNTOLD;
            Arrays.fill(strength, STRENGTH_UNTOLD);
        }

        private void copyFrom(Plan other) {
            engines = other.engines;
            System.arraycopy(other.arm, 0, arm, 0, ENGINES_MOST);
            System.arraycopy(other.flock, 0, flock, 0, ENGINES_MOST);
            System.arraycopy(other.kind, 0, kind, 0, ENGINES_MOST);
            System.arraycopy(other.eaten, 0, eaten, 0, ENGINES_MOST);
            stones = other.stones;
            System.arraycopy(other.thrower, 0, thrower, 0, STONES_MOST);
            System.arraycopy(other.day, 0, day, 0, STONES_MOST);
            System.arraycopy(other.weight, 0, weight, 0, STONES_MOST);
            System.arraycopy(other.strength, 0, strength, 0, CELLS);
            menders = other.menders;
            rains = other.rains;
            System.arraycopy(other.rain, 0, rain, 0, RAINS_MOST);
        }

        private boolean hasEngine(int e) {
            return e >= 0 && e < engines;
        }

        private boolean hasStone(int i) {
            return i >= 0 && i < stones;
        }

        private boolean addEngine(int a, int s, int k) {
            if (engines >= ENGINES_MOST || !within(a, 1, ARM_MOST) || !within(s, 0, SHEEP_MOST)
                    || !within(k, 0, FROZEN)) {
                return false;
            }
            arm[engines] = a;
            flock[engines] = s;
            kind[engines] = k;
            eaten[engines] = MEAL_UNTOLD;
            engines++;
            return true;
        }

        private boolean addStone(int e, int d, int w) {
            if (stones >= STONES_MOST || !hasEngine(e) || !within(d, 1, DAYS)
                    || !within(w, 1, WEIGHT_MOST)) {
                return false;
            }
            thrower[stones] = e;
            day[stones] = d;
            weight[stones] = w;
            stones++;
            return true;
        }

        private boolean setStrength(int c, int h) {
            if (!isCell(c) || !within(h, 0, STRENGTH_MOST)) {
                return false;
            }
            strength[c] = h;
            return true;
        }

        private boolean setMenders(int b) {
            if (!within(b, 0, MENDERS_MOST)) {
                return false;
            }
            menders = b;
            return true;
        }

        private boolean addRain(int d) {
            if (rains >= RAINS_MOST || !within(d, 1, DAYS)) {
                return false;
            }
            rain[rains] = d;
            rains++;
            return true;
        }

        private boolean setEaten(int e, int n) {
            if (!hasEngine(e) || !within(n, 0, MEAL_MOST)) {
                return false;
            }
            eaten[e] = n;
            return true;
        }

        private boolean rainsOn(int d) {
            for (int k = 0; k < rains; k++) {
                if (rain[k] == d) {
                    return true;
                }
            }
            return false;
        }

        private int sheepBehind(int e, int d) {
            if (e < 0 || e >= engines) {
                return 0;
            }
            int left = flock[e] - eaten[e] * d;
            return left > 0 ? left : 0;
        }

        /** How far stone i would fly on its day if it were of weight w. */
        private int farOf(int i, int w) {
            if (!hasStone(i) || !hasEngine(thrower[i])) {
                return 0;
            }
            int e = thrower[i];
            // the meal of a day comes behind its stones
            int pull = arm[e] * sheepBehind(e, day[i] - 1);
            if (kind[e] == DAMP && rainsOn(day[i])) {
                pull = pull / 2;
            }
            return distance(kind[e], pull, w);
        }

        /** The fewest sheep by which engine e throws weight w into cell c on a dry day, or NONE. */
        private int leastFlock(int e, int w, int c) {
            for (int s = 0; hasEngine(e) && s <= SHEEP_MOST; s++) {
                if (cellAt(distance(kind[e], arm[e] * s, w)) == c) {
                    return s;
                }
            }
            return NONE;
        }

        private void strike(Wall wall, int i, int w) {
            int far = farOf(i, w);
            int c = cellAt(far);
            if (c == NONE || !hasStone(i) || !hasEngine(thrower[i])) {
                return;
            }
            int blow = blowOf(w, far);
            wall.rubble += w;
            wall.weaken(c, blow);
            if (kind[thrower[i]] == TWIN) {
                wall.weaken(c + 1, blow / 2);
            }
        }
    }

    /** The text as it is written, and the plan that its items tell. */
    private static final class Text {
        private final int[] bytes = new int[TEXT_MOST];
        private int length;
        private final Plan plan = new Plan();
        private final int[] numbers = new int[NUMBERS_MOST];

        private void append(int newByte) {
            if (length < TEXT_MOST) {
                bytes[length] = newByte;
                length++;
            }
        }

        /** Where the first item begins that is not so, or NONE; the plan has all items ahead of it. */
        private int firstFault() {
            plan.clear();
            int at = 0;
            for (int items = 0; items < TEXT_MOST && at < length; items++) {
                int next = readItem(at);
                if (next == NONE) {
                    return at;
                }
                at = next;
            }
            return NONE;
        }

        private int byteAt(int place) {
            return within(place, 0, length - 1) && place < TEXT_MOST ? bytes[place] : NONE;
        }

        private boolean isFigure(int place) {
            return within(byteAt(place), '0', '9');
        }

        /** Where the item behind this one begins, or NONE if this one is not so. */
        private int readItem(int start) {
            int place = start + 1;
            for (int told = 1; told <= NUMBERS_MOST && isFigure(place); told++) {
                int number = byteAt(place) - '0';
                place++;
                if (isFigure(place)) {
                    number = number * 10 + byteAt(place) - '0';
                    place++;
                }
                numbers[told - 1] = number;
                int mark = byteAt(place);
                place++;
                if (mark == ';') {
                    return tell(byteAt(start), told) ? place : NONE;
                }
                if (mark != ',') {
                    return NONE;
                }
            }
            return NONE;
        }

        private boolean tell(int letter, int told) {
            switch (letter) {
                case 'e':
                    return told == 3 && plan.addEngine(numbers[0], numbers[1], numbers[2]);
                case 's':
                    return told == 3 && plan.addStone(numbers[0], numbers[1], numbers[2]);
                case 'w':
                    return told == 2 && plan.setStrength(numbers[0], numbers[1]);
                case 'm':
                    return told == 1 && plan.setMenders(numbers[0]);
                case 'r':
                    return told == 1 && plan.addRain(numbers[0]);
                case 'f':
                    return told == 2 && plan.setEaten(numbers[0], numbers[1]);
                default:
                    return false;
            }
        }
    }

    /** The cells as they stand, and the weight that lies in them. */
    private static final class Wall {
        private final int[] first = new int[CELLS];
        private final int[] strength = new int[CELLS];
        private int rubble;

        private void build(Plan plan) {
            System.arraycopy(plan.strength, 0, first, 0, CELLS);
            System.arraycopy(plan.strength, 0, strength, 0, CELLS);
            rubble = 0;
        }

        private void copyFrom(Wall other) {
            System.arraycopy(other.first, 0, first, 0, CELLS);
            System.arraycopy(other.strength, 0, strength, 0, CELLS);
            rubble = other.rubble;
        }

        private void weaken(int c, int blow) {
            if (isCell(c)) {
                strength[c] = Math.max(0, strength[c] - blow);
            }
        }

        private void mend(int times) {
            for (int k = 0; k < times && rubble > 0; k++) {
                int c = weakest();
                if (!isCell(c)) {
                    return;
                }
                strength[c]++;
                rubble--;
            }
        }

        private int weakest() {
            int found = NONE;
            for (int c = 0; c < CELLS; c++) {
                if (strength[c] < first[c] && (found < 0 || strength[c] < strength[found])) {
                    found = c;
                }
            }
            return found;
        }

        /** The lowest cell of strength 0, or NONE. */
        private int opened() {
            for (int c = 0; c < CELLS; c++) {
                if (strength[c] == 0) {
                    return c;
                }
            }
            return NONE;
        }

        private int total() {
            int sum = 0;
            for (int c = 0; c < CELLS; c++) {
                sum += strength[c];
            }
            return sum;
        }
    }

    /** Lets a plan's days pass. */
    private static final class Siege {
        private final Wall wall = new Wall();
        private int breachDay;
        private int breachCell;

        private void begin(Plan plan) {
            wall.build(plan);
            breachDay = NONE;
            breachCell = NONE;
        }

        private void run(Plan plan, int lastDay) {
            begin(plan);
            for (int d = 1; d <= lastDay; d++) {
                pass(plan, d);
            }
        }

        private boolean breachesBy(Plan plan, int lastDay) {
            begin(plan);
            for (int d = 1; d <= lastDay && breachDay == NONE; d++) {
                pass(plan, d);
            }
            return breachDay != NONE;
        }

        private void pass(Plan plan, int d) {
            for (int i = 0; i < plan.stones; i++) {
                if (plan.day[i] == d) {
                    plan.strike(wall, i, plan.weight[i]);
                }
            }
            if (breachDay == NONE && wall.opened() != NONE) {
                breachDay = d;
                breachCell = wall.opened();
            }
            wall.mend(plan.menders);
        }
    }

    /** Seeks the order of the stones' weights by which the wall is breached first. */
    private static final class BestOrder {
        private boolean known;
        private int day;
        private final int[] weights = new int[STONES_MOST];
        private int stones;
        private final int[] thrown = new int[STONES_MOST];
        private final int[] tried = new int[STONES_MOST];
        /** The wall ahead of each stone thrown: orders that begin alike share it. */
        private final Wall[] ahead = new Wall[STONES_MOST + 1];

        private BestOrder() {
            for (int k = 0; k < ahead.length; k++) {
                ahead[k] = new Wall();
            }
        }

        private void forget() {
            known = false;
        }

        private void find(Plan plan) {
            if (known) {
                return;
            }
            known = true;
            day = NONE;
            lineUp(plan);
            ahead[0].build(plan);
            if (ahead[0].opened() != NONE) {
                take(1);
                return;
            }
            int from = 0;
            for (int tries = 0; tries < ORDERS_BOUND && from != NONE; tries++) {
                int mattered = tryFrom(plan, from);
                // no order that begins alike up to here is better: the last one of them is next
                sort(mattered, false);
                from = nextOrder();
            }
        }

        /** Stones by day, then as told; weights from the lowest on. */
        private void lineUp(Plan plan) {
            stones = 0;
            for (int d = 1; d <= DAYS; d++) {
                for (int i = 0; i < plan.stones; i++) {
                    if (plan.day[i] == d && stones < STONES_MOST) {
                        thrown[stones] = i;
                        tried[stones] = plan.weight[i];
                        stones++;
                    }
                }
            }
            sort(0, true);
        }

        private void take(int onDay) {
            day = onDay;
            System.arraycopy(tried, 0, weights, 0, STONES_MOST);
        }

        /** Throws the stones from one on; answers how many of the first weights the outcome hangs on. */
        private int tryFrom(Plan plan, int from) {
            for (int k = Math.max(0, from); k < stones; k++) {
                int stoneDay = plan.day[thrown[k]];
                if (day != NONE && stoneDay >= day) {
                    return k;
                }
                if (breaches(plan, k)) {
                    take(stoneDay);
                    return k + 1;
                }
            }
            return stones;
        }

        private boolean breaches(Plan plan, int k) {
            Wall wall = ahead[k + 1];
            wall.copyFrom(ahead[k]);
            plan.strike(wall, thrown[k], tried[k]);
            if (wall.opened() != NONE) {
                return true;
            }
            if (k + 1 < stones) {
                wall.mend(plan.menders * (plan.day[thrown[k + 1]] - plan.day[thrown[k]]));
            }
            return false;
        }

        /** Makes the next order by weights; answers from which weight on it is another, or NONE. */
        private int nextOrder() {
            int pivot = NONE;
            for (int k = 0; k + 1 < stones; k++) {
                if (tried[k] < tried[k + 1]) {
                    pivot = k;
                }
            }
            if (pivot < 0) {
                return NONE;
            }
            int higher = pivot + 1;
            for (int k = pivot + 2; k < stones; k++) {
                if (tried[k] > tried[pivot]) {
                    higher = k;
                }
            }
            swap(pivot, higher);
            sort(pivot + 1, true);
            return pivot;
        }

        private void sort(int from, boolean rising) {
            for (int a = Math.max(0, from); a < stones; a++) {
                for (int b = a + 1; b < stones; b++) {
                    if (rising ? tried[b] < tried[a] : tried[b] > tried[a]) {
                        swap(a, b);
                    }
                }
            }
        }

        private void swap(int a, int b) {
            int held = tried[a];
            tried[a] = tried[b];
            tried[b] = held;
        }
    }

    /** What can be undone, and what is kept. */
    private static final class Changes {
        private int undoable;
        private final boolean[] ofStone = new boolean[UNDOABLE_MOST];
        private final int[] which = new int[UNDOABLE_MOST];
        private final int[] was = new int[UNDOABLE_MOST];
        private int kept;
        private final int[][] keptWeight = new int[KEPT_MOST][STONES_MOST];
        private final int[][] keptFlock = new int[KEPT_MOST][ENGINES_MOST];

        private void clear() {
            undoable = 0;
            kept = 0;
        }

        private void note(boolean stone, int index, int before) {
            if (undoable >= UNDOABLE_MOST) {
                dropOldest();
            }
            ofStone[undoable] = stone;
            which[undoable] = index;
            was[undoable] = before;
            undoable++;
        }

        private void dropOldest() {
            for (int k = 1; k < UNDOABLE_MOST; k++) {
                ofStone[k - 1] = ofStone[k];
                which[k - 1] = which[k];
                was[k - 1] = was[k];
            }
            undoable = UNDOABLE_MOST - 1;
        }

        private void takeBack(Plan plan) {
            if (undoable < 1) {
                return;
            }
            undoable--;
            int index = which[undoable];
            if (ofStone[undoable]) {
                if (plan.hasStone(index)) {
                    plan.weight[index] = was[undoable];
                }
            } else if (plan.hasEngine(index)) {
                plan.flock[index] = was[undoable];
            }
        }

        private void save(Plan plan) {
            if (kept >= KEPT_MOST) {
                return;
            }
            System.arraycopy(plan.weight, 0, keptWeight[kept], 0, STONES_MOST);
            System.arraycopy(plan.flock, 0, keptFlock[kept], 0, ENGINES_MOST);
            kept++;
        }

        private void restore(Plan plan) {
            if (kept < 1) {
                return;
            }
            kept--;
            System.arraycopy(keptWeight[kept], 0, plan.weight, 0, STONES_MOST);
            System.arraycopy(keptFlock[kept], 0, plan.flock, 0, ENGINES_MOST);
            undoable = 0;
        }
    }

    /** The chance that one cell is breached, above and below in lowest terms. */
    private static final class Chances {
        private long above;
        private long below;
        private final long[] now = new long[ODDS_STRENGTH_MOST + 1];
        private final long[] next = new long[ODDS_STRENGTH_MOST + 1];

        private void reckon(int h, int b, int x, int n) {
            Arrays.fill(now, 0L);
            if (within(h, 1, ODDS_STRENGTH_MOST)) {
                now[h] = 1L;
            }
            below = 1L;
            for (int d = 0; d < n; d++) {
                passDay(h, b, x);
                below *= TENTHS;
            }
            above = now[0];
            lower();
        }

        private void passDay(int h, int b, int x) {
            Arrays.fill(next, 0L);
            // a cell once breached counts as breached, whatever comes
            next[0] = now[0] * TENTHS;
            for (int s = 1; s <= h && s <= ODDS_STRENGTH_MOST; s++) {
                next[Math.max(0, s - b)] += now[s] * x;
                next[Math.min(h, s + 1)] += now[s] * (TENTHS - x);
            }
            System.arraycopy(next, 0, now, 0, now.length);
        }

        private void lower() {
            long divisor = below;
            long rest = above;
            for (int k = 0; k < DIVISIONS_BOUND && rest != 0L; k++) {
                long left = divisor % rest;
                divisor = rest;
                rest = left;
            }
            if (divisor > 0L) {
                above /= divisor;
                below /= divisor;
            }
        }
    }
}
