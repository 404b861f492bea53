import java.io.IOException;
import java.lang.reflect.Method;
import java.lang.reflect.Modifier;
import java.net.URL;
import java.net.URLClassLoader;
import java.nio.file.Files;
import java.nio.file.Path;
import java.util.ArrayList;
import java.util.List;
import java.util.regex.Matcher;
import java.util.regex.Pattern;
import javax.tools.ToolProvider;

/** What README.md says: its code compiles and answers as it says, every call has its row, every test its own. */
public final class ReadmeTest {
    private static final Check check = new Check("ReadmeTest");
    private static final Pattern BLOCK = Pattern.compile("(?ms)^```java\n(.*?)^```$");
    private static final Pattern ASKED = Pattern.compile("(x\\.\\w+\\(.*?\\)); +// (-?\\d+|BAD|NO|FULL|NONE)\\b.*");
    private static final Path FOLDER = Path.of("build/readme");
    private static final int ANSWERS_LEAST = 25;

    public static void main(String[] args) throws IOException, ReflectiveOperationException {
        String page = Files.readString(Path.of("README.md"));
        calls(page);
        tests(page);
        code(page);
        check.end();
    }

    private static void calls(String page) {
        for (Method m : SheepAndStones.class.getDeclaredMethods()) {
            if (Modifier.isPublic(m.getModifiers())) {
                Matcher row = Pattern.compile("(?m)^\\| `" + m.getName() + "\\(([^)]*)\\)` \\|").matcher(page);
                boolean found = row.find();
                check.holds(m.getName() + " has its row", found);
                String numbers = found ? row.group(1) : "";
                check.due("numbers of " + m.getName(), numbers.isEmpty() ? 0 : numbers.split(",").length,
                    m.getParameterCount());
            }
        }
        check.holds("BAD (-1)", page.contains("`BAD` (" + SheepAndStones.BAD + ")"));
        check.holds("NO (-2)", page.contains("`NO` (" + SheepAndStones.NO + ")"));
        check.holds("FULL (-3)", page.contains("`FULL` (" + SheepAndStones.FULL + ")"));
        check.holds("NONE (-4)", page.contains("`NONE` (" + SheepAndStones.NONE + ")"));
    }

    private static void tests(String page) throws IOException {
        try (var files = Files.newDirectoryStream(Path.of("src/test/java"), "*Test.java")) {
            for (Path file : files) {
                String name = file.getFileName().toString().replace(".java", "");
                check.holds(name + " has its row", page.contains("| `" + name + "` |"));
            }
        }
        check.holds("how the tests are run", page.contains("`sh .ci/run`"));
    }

    /** Blocks with a method of their own stand as they are, those of calls in one method behind them. */
    private static void code(String page) throws IOException, ReflectiveOperationException {
        StringBuilder methods = new StringBuilder();
        StringBuilder calls = new StringBuilder();
        List<String> asked = new ArrayList<>();
        Matcher block = BLOCK.matcher(page);
        while (block.find()) {
            for (String line : block.group(1).split("\n")) {
                Matcher answer = ASKED.matcher(line);
                if (block.group(1).startsWith("static ")) {
                    methods.append(line).append('\n');
                } else if (answer.matches()) {
                    String due = answer.group(2).replaceAll("[A-Z]+", "SheepAndStones.$0");
                    calls.append("got[" + asked.size() + "] = " + answer.group(1) + ";\n");
                    calls.append("due[" + asked.size() + "] = " + due + ";\n");
                    asked.add(answer.group(1));
                } else {
                    check.holds("\"" + line + "\" asks nothing, or tells its answer", !line.startsWith("x."));
                    calls.append(line).append('\n');
                }
            }
        }
        check.holds("the page has " + asked.size() + " answers", asked.size() >= ANSWERS_LEAST);
        run(asked, "public final class Page {\n" + methods + "public static void ask(long[] got, long[] due) {\n"
            + calls + "}\npublic static int told() {\nSheepAndStones x = new SheepAndStones();\n"
            + "tell(x, \"e7,1,0;s0,1,20;w9,60;r1;\");\nreturn x.lay() * 100 + x.count(6);\n}\n}\n");
    }

    private static void run(List<String> asked, String source) throws IOException, ReflectiveOperationException {
        Path file = FOLDER.resolve("Page.java");
        Files.createDirectories(FOLDER);
        Files.writeString(file, source);
        int failed = ToolProvider.getSystemJavaCompiler().run(null, System.out, System.out, "-cp", "build/own",
            "-d", FOLDER.toString(), file.toString());
        check.due("the page's code compiles", failed, 0);
        if (failed != 0) {
            return;
        }
        long[] got = new long[asked.size()];
        long[] due = new long[asked.size()];
        try (URLClassLoader loader = new URLClassLoader(new URL[] {FOLDER.toUri().toURL()})) {
            Class<?> made = loader.loadClass("Page");
            made.getMethod("ask", long[].class, long[].class).invoke(null, got, due);
            check.due("a text by tell()", (int) made.getMethod("told").invoke(null), 124);
        }
        for (int k = 0; k < got.length; k++) {
            check.due("the page's call " + (k + 1) + ", " + asked.get(k), got[k], due[k]);
        }
    }
}
