/** Counts and prints the answers that are not the ones that are due. */
final class Check {
    private final String test;
    private int wrong;
    private int asked;

    Check(String test) {
        this.test = test;
    }

    void due(String call, long got, long want) {
        asked++;
        if (got != want) {
            wrong++;
            System.out.println(test + ": " + call + " answered " + got + ", due is " + want);
        }
    }

    void holds(String what, boolean so) {
        due(what, so ? 1 : 0, 1);
    }

    void end() {
        System.out.println(test + ": " + asked + " answers, " + wrong + " wrong");
        if (wrong > 0) {
            System.exit(1);
        }
    }

    /** Writes a text, up to eight bytes a call. */
    static void tell(SheepAndStones x, String text) {
        for (int at = 0; at < text.length(); at += 8) {
            int end = Math.min(text.length(), at + 8);
            long bytes = 0;
            for (int k = at; k < end; k++) {
                bytes = bytes << 8 | text.charAt(k);
            }
            x.write(end - at, bytes);
        }
    }

    /** A new object on which a text is laid. */
    static SheepAndStones laid(String text) {
        SheepAndStones x = new SheepAndStones();
        tell(x, text);
        if (x.lay() < 1) {
            throw new IllegalStateException("not laid: " + text);
        }
        return x;
    }
}
