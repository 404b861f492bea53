import java.io.IOException;
import java.nio.file.Files;
import java.nio.file.Path;
import java.util.Arrays;
import java.util.regex.Matcher;
import java.util.regex.Pattern;

/** Holds answers against single sentences of the document, and sees to it that none of its words is left out. */
final class Sentences {
    private static final int PROMISES = 26;
    private static final Pattern WORD = Pattern.compile("[A-Za-z0-9']+");

    private final Check check = new Check("SentencesTest");
    private final String document;
    private final boolean[] quoted;
    private String now = "";

    Sentences(Path file) throws IOException {
        String folded = Files.readString(file).replaceAll("(?m)^```.*$", "").replaceAll("======== [0-9] ", "");
        document = folded.replaceAll("\\s+", " ");
        quoted = new boolean[document.length()];
    }

    /** What is due from here on is due by this sentence, for this promise. */
    void of(int promise, String sentence) {
        now = "promise " + promise + ", \"" + sentence + "\"";
        int begin = section(promise);
        int at = document.indexOf(sentence, begin);
        if (at < 0 || at >= section(promise + 1)) {
            // not the promise's own words, so the terms': these must not stand there twice
            begin = 0;
            at = document.indexOf(sentence);
            check.holds(now + " stands once ahead of the promises", at >= 0 && at < section(1)
                && (document.indexOf(sentence, at + 1) < 0 || document.indexOf(sentence, at + 1) >= section(1)));
        }
        if (at >= 0) {
            Arrays.fill(quoted, at, at + sentence.length(), true);
        }
    }

    void due(String call, long got, long want) {
        check.due(now + ": " + call, got, want);
    }

    void holds(String what, boolean so) {
        check.holds(now + ": " + what, so);
    }

    void fault(String text, int place) {
        SheepAndStones x = new SheepAndStones();
        Check.tell(x, text);
        due("fault() of " + text, x.fault(), place);
    }

    /** Every text that differs in one number alone: of two bounds, and what stands beside them. */
    void bounds(String ahead, String behind, int low, int high) {
        int place = ahead.lastIndexOf(';') + 1;
        for (int n : new int[] {low - 1, low, low + 1, high - 1, high, high + 1, 99}) {
            if (n >= 0) {
                fault(ahead + n + behind, n < low || n > high ? place : SheepAndStones.NONE);
            }
        }
    }

    /** Ends the test: all words of the document that bind the class must have been quoted. */
    void end() {
        now = "";
        allQuoted(document.indexOf("A TEXT is bytes"), document.indexOf("## The public face"));
        allQuoted(document.indexOf("LAID is a TEXT"), document.indexOf("Ahead of the calls `write`"));
        for (int p = 1; p <= PROMISES; p++) {
            allQuoted(document.indexOf("`: ", section(p)) + 1, section(p + 1));
        }
        check.end();
    }

    private int section(int promise) {
        return document.indexOf(promise > PROMISES ? "## Not promised" : "## Promise " + promise + ":");
    }

    private void allQuoted(int from, int to) {
        check.holds("the document has its parts where they are sought", from > 0 && to > from);
        Matcher word = WORD.matcher(document).region(Math.max(0, from), Math.max(0, to));
        while (word.find()) {
            String near = document.substring(Math.max(0, word.start() - 30), word.end());
            check.holds("no test quotes the last word of \".." + near + "\"", quoted[word.start()]
                && quoted[word.end() - 1]);
        }
    }
}
