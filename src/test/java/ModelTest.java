import java.util.Random;

/** All promises: drawn texts and calls, each answer held against the model's. */
public final class ModelTest {
    private static final int OBJECTS = 1500;
    private static final int CALLS = 512;
    private static final Check check = new Check("ModelTest");
    private static final int[] ODD = {Integer.MIN_VALUE, -100, -5, -4, -3, -2, -1, 31, 60, 61, 100, 300, 10000,
        Integer.MAX_VALUE - 1, Integer.MAX_VALUE};

    private final Random draw;
    private final SheepAndStones real = new SheepAndStones();
    private final Model model = new Model();
    private final int object;
    private int asked;

    private ModelTest(int object) {
        this.object = object;
        draw = new Random(object);
    }

    public static void main(String[] args) {
        for (int object = 0; object < OBJECTS; object++) {
            new ModelTest(object).run();
        }
        check.end();
    }

    private void run() {
        if (draw.nextInt(8) > 0) {
            text(draw.nextInt(6) == 0);
            due("lay()", real.lay(), model.lay());
        }
        while (asked < CALLS) {
            call(draw.nextInt(100));
        }
    }

    private void due(String call, long got, long want) {
        asked++;
        check.due("object " + object + ", call " + asked + ": " + call, got, want);
    }

    /** A number that mostly stands within the bounds, at times beside them. */
    private int number(int low, int high) {
        int how = draw.nextInt(40);
        if (how == 0) {
            return ODD[draw.nextInt(ODD.length)];
        }
        if (how == 1) {
            return draw.nextBoolean() ? low - 1 : high + 1;
        }
        return how == 2 ? low : how == 3 ? high : low + draw.nextInt(Math.max(1, high - low + 1));
    }

    private void write(int n, long v) {
        due("write(" + n + ", " + v + ")", real.write(n, v), model.write(n, v));
    }

    private void text(boolean spoiled) {
        due("wipe()", real.wipe(), model.wipe());
        String told = drawText();
        if (spoiled) {
            StringBuilder b = new StringBuilder(told);
            int at = draw.nextInt(b.length());
            b.setCharAt(at, "0123456789,;esmwrf \u0000\u00ff".charAt(draw.nextInt(21)));
            told = b.toString();
        }
        for (int at = 0; at < told.length();) {
            int n = Math.min(told.length() - at, 1 + draw.nextInt(8));
            long v = draw.nextLong();
            for (int k = 0; k < n; k++) {
                v = v << 8 | told.charAt(at + k);
            }
            write(n, v);
            at += n;
        }
        due("fault()", real.fault(), model.fault());
    }

    private String drawText() {
        StringBuilder b = new StringBuilder();
        int engines = 1 + draw.nextInt(3);
        int farthest = draw.nextBoolean() ? 60 : 25;
        for (int e = 0; e < engines; e++) {
            item(b, 'e', 1 + draw.nextInt(9), draw.nextInt(farthest + 1), draw.nextInt(4));
        }
        int stones = draw.nextInt(7);
        int lastDay = draw.nextInt(3) == 0 ? 30 : 2 + draw.nextInt(6);
        for (int i = 0; i < stones; i++) {
            int heavy = draw.nextBoolean() ? 20 : 9;
            item(b, 's', draw.nextInt(engines), 1 + draw.nextInt(lastDay), 1 + draw.nextInt(heavy));
        }
        int strongest = draw.nextBoolean() ? 60 : 30;
        for (int k = draw.nextInt(11); k > 0; k--) {
            item(b, 'w', draw.nextInt(10), draw.nextInt(30) == 0 ? 0 : 1 + draw.nextInt(strongest));
        }
        for (int k = draw.nextInt(3); k > 0; k--) {
            item(b, 'm', draw.nextInt(10));
        }
        for (int k = draw.nextInt(7); k > 0; k--) {
            item(b, 'r', 1 + draw.nextInt(lastDay));
        }
        for (int k = draw.nextInt(4); k > 0; k--) {
            item(b, 'f', draw.nextInt(engines), draw.nextInt(10));
        }
        if (draw.nextInt(20) == 0) {
            item(b, "esrmwf".charAt(draw.nextInt(6)), draw.nextInt(12), draw.nextInt(70), draw.nextInt(5));
        }
        return b.toString();
    }

    private void item(StringBuilder b, char letter, int... numbers) {
        b.append(letter);
        for (int k = 0; k < numbers.length; k++) {
            b.append(k > 0 ? "," : "").append(numbers[k] < 10 && draw.nextInt(5) == 0 ? "0" : "").append(numbers[k]);
        }
        b.append(';');
    }

    private void call(int which) {
        if (which < 2) {
            text(draw.nextInt(3) == 0);
        } else if (which < 4) {
            due("lay()", real.lay(), model.lay());
        } else if (which < 5) {
            write(number(1, 8), draw.nextLong());
        } else if (which < 6) {
            due("fault()", real.fault(), model.fault());
        } else if (which < 30) {
            told();
        } else if (which < 45) {
            days();
        } else if (which < 60) {
            shouldBe();
        } else if (which < 75) {
            craters();
        } else {
            changes();
        }
    }

    private void told() {
        int e = number(0, 2);
        int i = number(0, 5);
        int what = number(0, 5);
        switch (draw.nextInt(3)) {
            case 0 -> due("engine(" + e + ", " + what + ")", real.engine(e, what), model.engine(e, what));
            case 1 -> due("stone(" + i + ", " + what + ")", real.stone(i, what), model.stone(i, what));
            default -> due("count(" + what + ")", real.count(what + 1), model.count(what + 1));
        }
    }

    private void days() {
        int e = number(0, 2);
        int c = number(0, 9);
        int d = number(0, 30);
        int what = number(0, 1);
        switch (draw.nextInt(5)) {
            case 0 -> due("sheep(" + e + ", " + d + ")", real.sheep(e, d), model.sheep(e, d));
            case 1 -> due("rubble(" + d + ")", real.rubble(d), model.rubble(d));
            case 2 -> due("breach(" + what + ")", real.breach(what), model.breach(what));
            default -> due("cell(" + c + ", " + d + ")", real.cell(c, d), model.cell(c, d));
        }
    }

    private void shouldBe() {
        int e = number(0, 2);
        int i = number(-1, 5);
        int c = number(0, 9);
        int d = number(1, 30);
        switch (draw.nextInt(12)) {
            case 0 -> order(i);
            case 1, 2, 3 -> due("ballast(" + e + ", " + d + ")", real.ballast(e, d), model.ballast(e, d));
            case 4, 5 -> due("hold(" + d + ")", real.hold(d), model.hold(d));
            case 6, 7, 8 -> due("meal(" + e + ", " + d + ")", real.meal(e, d), model.meal(e, d));
            default -> due("aim(" + i + ", " + c + ")", real.aim(i, c), model.aim(i, c));
        }
    }

    private void order(int i) {
        // the model takes its time over six stones
        if (model.count(1) < 6 || draw.nextInt(3) == 0) {
            due("order(" + i + ")", real.order(i), model.order(i));
        }
    }

    private void craters() {
        int e = number(0, 2);
        int w = number(1, 20);
        int c = number(0, 9);
        int z = number(0, 9999);
        int what = number(0, 1);
        switch (draw.nextInt(4)) {
            case 0 -> due("crater(" + w + ", " + c + ")", real.crater(w, c), model.crater(w, c));
            case 1 -> due("least(" + e + ", " + w + ", " + c + ")", real.least(e, w, c), model.least(e, w, c));
            case 2 -> due("year(" + z + ", " + what + ")", real.year(z, what), model.year(z, what));
            default -> odds(what);
        }
    }

    private void odds(int part) {
        int h = draw.nextBoolean() ? number(1, 40) : number(1, 8);
        int b = draw.nextBoolean() ? number(1, 20) : number(1, 4);
        int x = number(0, 10);
        int n = number(0, 9);
        due("odds(" + h + ", " + b + ", " + x + ", " + n + ", " + part + ")", real.odds(h, b, x, n, part),
            model.odds(h, b, x, n, part));
    }

    private void changes() {
        int e = number(0, 2);
        int i = number(0, 5);
        int w = number(1, 20);
        int s = number(0, 60);
        switch (draw.nextInt(10)) {
            case 0, 1, 2 -> due("weigh(" + i + ", " + w + ")", real.weigh(i, w), model.weigh(i, w));
            case 3, 4, 5 -> due("give(" + e + ", " + s + ")", real.give(e, s), model.give(e, s));
            case 6, 7 -> due("undo()", real.undo(), model.undo());
            case 8 -> due("keep()", real.keep(), model.keep());
            default -> due("back()", real.back(), model.back());
        }
    }
}
