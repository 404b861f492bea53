/** Sentences of the text, its items and its fault: promises 1 to 5. */
final class TextSentences {
    private static final int BAD = SheepAndStones.BAD, NO = SheepAndStones.NO;
    private static final int FULL = SheepAndStones.FULL, NONE = SheepAndStones.NONE;
    private static final String ENGINE = "e1,0,0;", THREE = "e1,0,0;e2,0,0;e3,0,0;";

    private final Sentences s;

    TextSentences(Sentences s) {
        this.s = s;
    }

    void run() {
        newObject();
        text();
        items();
        engines();
        stones();
        wall();
        menders();
        rain();
        meals();
        fault();
        writeBytes();
        writeBounds();
        writeFull();
        wipe();
        layed();
        layedAnew();
        layRefused();
        calls();
    }

    private void newObject() {
        s.of(1, "at first e5,20,0;s0,1,10;s0,2,10;)");
        SheepAndStones x = new SheepAndStones();
        SheepAndStones y = Check.laid("e5,20,0;s0,1,10;s0,2,10;");
        y.wipe();
        s.holds("a new object answers as one on which that is laid", Answers.of(x).equals(Answers.of(y)));
        s.due("engine(0, 0)", x.engine(0, 0), 5);
        s.due("engine(0, 1)", x.engine(0, 1), 20);
        s.due("engine(1, 0)", x.engine(1, 0), BAD);
        s.due("stone(1, 2)", x.stone(1, 2), 10);
        s.due("stone(2, 2)", x.stone(2, 2), BAD);
        s.of(1, "As told; THE TEXT is empty.");
        x = new SheepAndStones();
        s.due("count(6)", x.count(6), 0);
        s.due("fault()", x.fault(), NONE);
        s.due("lay()", x.lay(), NO);
        s.due("wipe()", x.wipe(), 0);
        s.due("undo()", x.undo(), NO);
        s.due("back()", x.back(), NO);
    }

    private void text() {
        s.of(4, "A TEXT is bytes (300 at most)");
        s.fault("m1;".repeat(100), NONE);
        s.fault("m1;".repeat(99) + "m1", 297);
        for (int b = 0; b < 256; b++) {
            s.fault("" + (char) b, 0);
            s.fault("m1;" + (char) b + "1;", b == 'm' || b == 'r' ? NONE : 3);
        }
    }

    private void items() {
        s.of(4, "ITEMS one behind the other");
        s.fault("", NONE);
        s.fault("m1;r1;w1,1;", NONE);
        s.fault("m1; r1;", 3);
        s.fault("m1;;r1;", 3);
        s.fault("m1;r1;\n", 6);
        s.of(4, "each a letter, numbers (one or two figures) parted by , and ; (behind the last one, too):");
        String[] good = {"m1;", "m01;", "m00;", "r01;", "r30;", "w01,01;", "w9,60;", "e01,00,00;", "e1,10,03;"};
        for (String item : good) {
            s.fault(item, NONE);
        }
        String[] bad = {"m", "m;", "m1", "m1,", "m1,;", "m,1;", "m001;", "m1;1;", "m1.", "m 1;", "m1 ;", "m-1;", "m+1;",
            "m/;", "m:;", "m1/;", "m1:;", "r1/;", "r1:;", "M1;", "1;", "m1,1;", "r1,1;", "w;", "w1;", "w1,;", "w,1;",
            "w1;1;", "w1,1", "w1,001;", "w001,1;", "w1,,1;", "w1,1,1;", "e;", "e1;", "e1,0;", "e1,0,;", "e1,,0;",
            "e,0,0;", "e1,0,0", "e1,0,0,", "e1,0,0,0;", "e001,0,0;", "e1,000,0;", "e1,0,000;", "e1;0;0;", "e1,0;0,"};
        for (String item : bad) {
            s.fault(item, item.startsWith("m1;") ? 3 : 0);
            s.fault("m2;" + item, item.startsWith("m1;") ? 6 : 3);
        }
        for (String item : new String[] {"s0,1;", "s0;", "s0,1,1,1;", "s0,1,1", "s0,1,001;", "f0;", "f0,1,1;", "f0,1"}) {
            s.fault(ENGINE + item, 7);
        }
    }

    private void engines() {
        s.of(4, "eA,S,K an ENGINE of ARM A (1 to 9)");
        s.bounds("e", ",0,0;", 1, 9);
        s.of(4, "with S SHEEP as ballast (0 to 60)");
        s.bounds("e1,", ",0;", 0, 60);
        s.of(4, "of KIND K (0 PLAIN, 1 DAMP, 2 TWIN, 3 FROZEN)");
        s.bounds("e1,0,", ";", 0, 3);
        s.of(4, "3 at most, 0, 1, ..");
        s.fault(THREE, NONE);
        s.fault(THREE + "e1,0,0;", 21);
        s.fault(THREE + "m1;e1,0,0;m2;", 24);
        SheepAndStones x = Check.laid(THREE);
        for (int e = 0; e < 4; e++) {
            s.due("engine(" + e + ", 0)", x.engine(e, 0), e < 3 ? e + 1 : BAD);
        }
    }

    private void stones() {
        s.of(4, "sE,D,W a STONE of weight W (1 to 20)");
        s.bounds(ENGINE + "s0,1,", ";", 1, 20);
        s.of(4, "is thrown by ENGINE E (told ahead)");
        s.bounds(ENGINE + "s", ",1,1;", 0, 0);
        s.bounds(THREE + "s", ",1,1;", 0, 2);
        s.fault("s0,1,1;", 0);
        s.fault("s0,1,1;" + ENGINE, 0);
        s.fault(ENGINE + "s1,1,1;" + ENGINE, 7);
        s.of(4, "thrown by ENGINE E (told ahead) on day D (1 to 30);");
        s.bounds(ENGINE + "s0,", ",1;", 1, 30);
        s.of(4, "6 at most, 0, 1, ..");
        StringBuilder b = new StringBuilder(ENGINE);
        for (int i = 0; i < 6; i++) {
            b.append("s0,1,").append(i + 1).append(';');
        }
        s.fault(b.toString(), NONE);
        s.fault(b + "s0,1,7;", 49);
        s.fault(b + "m1;s0,30,1;", 52);
        SheepAndStones x = Check.laid(b.toString());
        for (int i = 0; i < 7; i++) {
            s.due("stone(" + i + ", 2)", x.stone(i, 2), i < 6 ? i + 1 : BAD);
        }
    }

    private void wall() {
        s.of(4, "wC,H the WALL's cell C (0 to 9)");
        s.bounds("w", ",1;", 0, 9);
        s.of(4, "is of strength H (0 to 60;");
        s.bounds("w0,", ";", 0, 60);
        SheepAndStones x = Check.laid(ENGINE + "w0,0;w9,60;");
        s.due("cell(0, 0)", x.cell(0, 0), 0);
        s.due("cell(9, 0)", x.cell(9, 0), 60);
        s.of(9, "10 without; the last one of each) mB");
        x = Check.laid(ENGINE + "w3,1;w4,2;w3,0;w9,60;w9,59;w9,60;");
        int[] due = {10, 10, 10, 0, 2, 10, 10, 10, 10, 60};
        for (int c = 0; c < due.length; c++) {
            s.due("cell(" + c + ", 0)", x.cell(c, 0), due[c]);
        }
        s.fault(ENGINE + "w3,1;w4,2;w3,61;w3,1;", 17);
    }

    private void menders() {
        s.of(4, "mB MENDERS mend B (0 to 9) each night");
        s.bounds("m", ";", 0, 9);
        s.of(26, "(2 without; of several the last one counts)");
        s.due("count(2) without", Check.laid(ENGINE).count(2), 2);
        s.due("count(2) of m9;m0;", Check.laid(ENGINE + "m9;m0;").count(2), 0);
        s.due("count(2) of m0;m1;m9;", Check.laid("m0;m1;" + ENGINE + "m9;").count(2), 9);
    }

    private void rain() {
        s.of(4, "rD it rains on day D (1 to 30); 6 at most");
        s.bounds("r", ";", 1, 30);
        s.fault("r1;r2;r3;r4;r5;r6;", NONE);
        s.fault("r1;r2;r3;r4;r5;r6;r7;", 18);
        s.fault("r9;".repeat(6), NONE);
        s.fault("r9;".repeat(7), 18);
    }

    private void meals() {
        s.of(4, "fE,N N (0 to 9) SHEEP of ENGINE E (told ahead) are eaten each night");
        s.bounds(ENGINE + "f0,", ";", 0, 9);
        s.bounds(ENGINE + "f", ",1;", 0, 0);
        s.bounds(THREE + "f", ",1;", 0, 2);
        s.fault("f0,1;", 0);
        s.fault("f0,1;" + ENGINE, 0);
        s.fault(ENGINE + "f1,1;" + ENGINE, 7);
        s.of(6, "(1 without; the last one of each)");
        SheepAndStones x = Check.laid(THREE + "f0,9;f2,3;f0,0;f2,9;");
        s.due("engine(0, 3)", x.engine(0, 3), 0);
        s.due("engine(1, 3) without", x.engine(1, 3), 1);
        s.due("engine(2, 3)", x.engine(2, 3), 9);
    }

    private void fault() {
        s.of(4, "FAULT: the place (from 0 on) of the first byte of the first ITEM that is not so.");
        s.fault("x", 0);
        s.fault("m1;e1,0,9;m77;", 3);
        s.fault("m77;m1;m78;", 0);
        s.fault("w1,1;w1,1", 5);
        s.fault("w1,1;w1,61", 5);
        String most = "m01;m01;" + "m1;".repeat(97);
        s.fault(most, NONE);
        s.fault(most + "x", 299);
        s.fault("e1,0,0;e1,0,0;e1,0,0;e1,0,0;e1,0,0;", 21);
        s.of(4, "FAULT. NONE.");
        SheepAndStones x = new SheepAndStones();
        s.due("fault() of no text", x.fault(), NONE);
        Check.tell(x, ENGINE + "m1");
        s.due("fault() of what is not ended", x.fault(), 7);
        s.due("fault() again", x.fault(), 7);
        Check.tell(x, ";");
        s.due("fault() of what is ended", x.fault(), NONE);
        s.due("nothing is laid by it", x.engine(0, 0), 5);
        x.wipe();
        s.due("fault() of what is wiped", x.fault(), NONE);
    }

    private void writeBytes() {
        s.of(2, "The lowest n bytes (1 to 8) of v, the highest of these first, come behind THE TEXT: how long it is.");
        String[] texts = {"m1;", "m01;", "w1,2;", "w1,22;", ENGINE, "e1,10,0;"};
        for (String text : texts) {
            SheepAndStones x = new SheepAndStones();
            long v = -1L;
            for (char c : text.toCharArray()) {
                v = v << 8 | c;
            }
            s.due("write(" + text.length() + ", ..) of " + text, x.write(text.length(), v), text.length());
            s.due("fault() of " + text, x.fault(), NONE);
        }
        SheepAndStones x = new SheepAndStones();
        s.due("write(1, 'm')", x.write(1, 0x3131313131313100L | 'm'), 1);
        s.due("write(2, '1;')", x.write(2, 0x6D6D6D6D6D6D0000L | '1' << 8 | ';'), 3);
        s.due("write(1, 'm')", x.write(1, 'm'), 4);
        s.due("fault()", x.fault(), 3);
        s.due("write(2, '2;')", x.write(2, '2' << 8 | ';'), 6);
        s.due("fault()", x.fault(), NONE);
    }

    private void writeBounds() {
        s.of(2, "The lowest n bytes (1 to 8) of v");
        SheepAndStones x = new SheepAndStones();
        for (int n : new int[] {0, 9, -1, 10, 256 + 1, Integer.MIN_VALUE, Integer.MAX_VALUE, Integer.MIN_VALUE + 1}) {
            for (long v : new long[] {0L, Long.MIN_VALUE, Long.MAX_VALUE}) {
                s.due("write(" + n + ", " + v + ")", x.write(n, v), BAD);
            }
        }
        s.due("count(6)", x.count(6), 0);
        int length = 0;
        for (long v : new long[] {0L, -1L, Long.MIN_VALUE, Long.MAX_VALUE}) {
            for (int n = 1; n <= 8; n++) {
                length += n;
                s.due("write(" + n + ", " + v + ")", x.write(n, v), length);
            }
        }
        s.due("fault()", x.fault(), 0);
    }

    private void writeFull() {
        s.of(2, "BAD; FULL.");
        SheepAndStones x = new SheepAndStones();
        Check.tell(x, "m1;".repeat(97) + "m01");
        s.due("294 and 7", x.write(7, 0L), FULL);
        s.due("294 stay", x.count(6), 294);
        s.due("fault() of what is not ended", x.fault(), 291);
        s.due("294 and 6", x.write(6, 0x3B6D353B6D37L), 300);
        s.due("fault(): nothing of what was too much", x.fault(), 298);
        for (int n = 1; n <= 8; n++) {
            s.due("write(" + n + ") behind 300", x.write(n, -1L), FULL);
        }
        for (int n : new int[] {0, 9, -1, Integer.MIN_VALUE, Integer.MAX_VALUE}) {
            s.due("write(" + n + ") behind 300: BAD ahead of FULL", x.write(n, -1L), BAD);
        }
        s.due("300 stay", x.count(6), 300);
        s.due("fault() as before", x.fault(), 298);
        for (int n = 1; n <= 8; n++) {
            SheepAndStones y = new SheepAndStones();
            Check.tell(y, "m".repeat(301 - n));
            s.due("write(" + n + ") for 301", y.write(n, 0L), FULL);
            y.wipe();
            Check.tell(y, "m".repeat(300 - n));
            s.due("write(" + n + ") for 300", y.write(n, 0L), 300);
        }
    }

    private void wipe() {
        s.of(3, "THE TEXT is empty: how long it was.");
        SheepAndStones x = new SheepAndStones();
        s.due("wipe() of an empty one", x.wipe(), 0);
        Check.tell(x, "x");
        s.due("wipe() of one byte", x.wipe(), 1);
        s.due("wipe() again", x.wipe(), 0);
        s.due("count(6)", x.count(6), 0);
        s.due("fault()", x.fault(), NONE);
        Check.tell(x, "e9,9,3;".repeat(42) + "e9,9,3");
        s.due("wipe() of a full one", x.wipe(), 300);
        s.due("lay() of none", x.lay(), NO);
        s.due("what is laid stays", x.engine(0, 0), 5);
        s.due("write(1) behind it", x.write(1, 'm'), 1);
        s.due("fault(): nothing of the old text stands behind it", x.fault(), 0);
        Check.tell(x, "1;");
        s.due("fault(): nothing of the old text stands behind it", x.fault(), NONE);
        // what is not ended is not ended by bytes that stood there
        for (String old : new String[] {"m1;", "w1,1;", ENGINE, "r30;r1;"}) {
            for (int left = 1; left < old.length(); left++) {
                x.wipe();
                Check.tell(x, old);
                x.wipe();
                Check.tell(x, old.substring(0, left));
                int due = left == 4 && old.startsWith("r30;") ? NONE : left > 4 && old.startsWith("r30;") ? 4 : 0;
                s.due("fault() of the first " + left + " of " + old, x.fault(), due);
            }
        }
    }

    private void layed() {
        s.of(5, "LAID: how many ENGINES; nothing UNDONE, KEPT (THE TEXT stays).");
        SheepAndStones x = new SheepAndStones();
        for (int engines = 1; engines <= 3; engines++) {
            x.weigh(0, 1);
            x.give(0, 1);
            x.keep();
            x.keep();
            Check.tell(x, ENGINE);
            s.due("lay() of " + engines, x.lay(), engines);
            s.due("count(0)", x.count(0), engines);
            s.due("nothing UNDONE", x.count(4), 0);
            s.due("undo()", x.undo(), NO);
            s.due("nothing KEPT", x.count(5), 0);
            s.due("back()", x.back(), NO);
            s.due("THE TEXT stays", x.count(6), 7 * engines);
            s.due("fault()", x.fault(), NONE);
            s.due("no STONE of the one before", x.count(1), 0);
        }
        x.give(2, 7);
        s.due("lay() again", x.lay(), 3);
        s.due("as THE TEXT tells", x.engine(2, 1), 0);
    }

    private void layedAnew() {
        s.of(5, "LAID: how many ENGINES;");
        String[] texts = {"e9,60,2;e8,59,1;e7,58,1;s0,1,20;s1,2,19;s2,3,18;s2,4,17;s1,5,16;s0,6,15;w0,60;w9,0;m9;"
            + "r1;r2;r3;r4;r5;r6;f0,9;f1,8;f2,7;", "e1,60,1;e1,12,1;s1,1,1;s1,2,1;s1,3,1;s0,4,9;", "e1,60,1;", "e2,7,3;s0,1,1;m0;"};
        for (String first : texts) {
            for (String second : texts) {
                SheepAndStones x = Check.laid(first);
                x.order(0);
                x.wipe();
                Check.tell(x, second);
                s.due("lay() of " + second, x.lay(), second.split("e").length - 1);
                SheepAndStones fresh = Check.laid(second);
                s.holds("nothing of " + first + " is left", Answers.of(x).equals(Answers.of(fresh)));
                s.holds("nothing of " + first + " is left", Answers.tried(x).equals(Answers.tried(fresh)));
            }
        }
    }

    private void layRefused() {
        s.of(5, "NO.");
        s.of(5, "LAID is a TEXT without FAULT, of an ENGINE at least (NO else;");
        String[] texts = {"", "m1;", "w0,0;r1;m3;", "x", "e1,0,0", "e1,0,0;x", "e1,0,0;e1,0,0;e1,0,0;e1,0,0;", "e0,0,0;",
            "s0,1,1;e1,0,0;"};
        for (String text : texts) {
            SheepAndStones x = new SheepAndStones();
            x.weigh(0, 7);
            x.keep();
            Check.tell(x, text);
            s.due("lay() of " + text, x.lay(), NO);
            s.due("what is laid stays", x.engine(0, 0), 5);
            s.due("weights stay", x.stone(0, 2), 7);
            s.due("B stays", x.count(2), 2);
            s.due("rain stays", x.count(3), 0);
            s.due("the WALL stays", x.cell(0, 0), 10);
            s.due("THE TEXT stays", x.count(6), text.length());
            s.due("what can be UNDONE stays", x.undo(), 0);
            s.due("what is KEPT stays", x.back(), 0);
        }
    }

    private void calls() {
        s.of(26, "An object is used for at most 512 calls after it has been made; what later calls answer is free.");
        SheepAndStones x = new SheepAndStones();
        for (int k = 1; k < 512; k++) {
            s.due("call " + k, x.weigh(k % 2, k % 20 + 1), k < 3 ? 10 : (k - 2) % 20 + 1);
        }
        s.due("call 512", x.count(4), 8);
    }
}
