import java.io.IOException;
import java.lang.reflect.Constructor;
import java.lang.reflect.Field;
import java.lang.reflect.Method;
import java.lang.reflect.Modifier;
import java.nio.file.Files;
import java.nio.file.Path;
import java.util.Set;
import java.util.TreeSet;
import java.util.regex.Matcher;
import java.util.regex.Pattern;

/** The public face, and the rules of LANGUAGE.md that can be seen from words and members. */
public final class FaceTest {
    private static final Check check = new Check("FaceTest");
    private static final Set<String> FACE = Set.of("int write(int, long)", "int wipe()", "int fault()", "int lay()",
        "int engine(int, int)", "int stone(int, int)", "int sheep(int, int)", "int cell(int, int)",
        "int rubble(int)", "int breach(int)", "int order(int)", "int ballast(int, int)", "int hold(int)",
        "int meal(int, int)", "int aim(int, int)", "int crater(int, int)", "int least(int, int, int)",
        "long odds(int, int, int, int, int)", "int year(int, int)", "int weigh(int, int)", "int give(int, int)",
        "int undo()", "int keep()", "int back()", "int count(int)");
    private static final String RULED_OUT = "\\b(throw|throws|try|catch|finally|synchronized|assert|volatile"
        + "|native|transient|double|float|Object|Exception|Thread|Random|protected|import static|package)\\b"
        + "|->|::|\\.(equals|hashCode|toString)\\(|\\w+Exact\\(|\"";

    private static final int LINES_MOST = 60;

    public static void main(String[] args) throws IOException {
        check.due("BAD", SheepAndStones.BAD, -1);
        check.due("NO", SheepAndStones.NO, -2);
        check.due("FULL", SheepAndStones.FULL, -3);
        check.due("NONE", SheepAndStones.NONE, -4);
        face();
        members(SheepAndStones.class);
        String source = Files.readString(Path.of("src/main/java/SheepAndStones.java"));
        words(source);
        lengths(source);
        parts(source, Files.readString(Path.of("../shared/DOC.md")));
        check.end();
    }

    private static void face() {
        check.due("modifiers", SheepAndStones.class.getModifiers(), Modifier.PUBLIC | Modifier.FINAL);
        check.due("constructors", SheepAndStones.class.getDeclaredConstructors().length, 1);
        Constructor<?> made = SheepAndStones.class.getDeclaredConstructors()[0];
        check.holds("the constructor", made.getParameterCount() == 0 && Modifier.isPublic(made.getModifiers()));
        Set<String> names = new TreeSet<>();
        Set<String> found = new TreeSet<>();
        for (Method m : SheepAndStones.class.getDeclaredMethods()) {
            if (Modifier.isPrivate(m.getModifiers())) {
                continue;
            }
            names.add(m.getName());
            found.add(m.toGenericString().replaceAll("public |SheepAndStones\\.", "").replace(",", ", "));
            check.holds(m + " is public", Modifier.isPublic(m.getModifiers()));
        }
        check.holds("the methods: " + found, found.equals(new TreeSet<>(FACE)));
        for (Method m : SheepAndStones.class.getDeclaredMethods()) {
            check.holds(m + " bears a public name", !Modifier.isPrivate(m.getModifiers()) || !names.contains(m.getName()));
        }
        Set<String> constants = new TreeSet<>();
        for (Field f : SheepAndStones.class.getDeclaredFields()) {
            if (!Modifier.isPrivate(f.getModifiers())) {
                constants.add(f.getName());
            }
        }
        check.holds("the constants: " + constants, constants.equals(new TreeSet<>(Set.of("BAD", "NO", "FULL", "NONE"))));
        check.holds("classes", SheepAndStones.class.getDeclaredClasses().length <= 12);
    }

    private static void members(Class<?> type) {
        int fields = 0;
        for (Field f : type.getDeclaredFields()) {
            fields += Modifier.isStatic(f.getModifiers()) ? 0 : 1;
            check.holds(f + " is static, but not final",
                !Modifier.isStatic(f.getModifiers()) || Modifier.isFinal(f.getModifiers()));
        }
        check.holds(type + " has " + fields + " fields", fields <= 20);
        for (Method m : type.getDeclaredMethods()) {
            check.holds(m + " takes too many parameters", m.getParameterCount() <= 7);
        }
        for (Class<?> inner : type.getDeclaredClasses()) {
            check.holds(inner + " is not static", Modifier.isStatic(inner.getModifiers()));
            check.holds(inner + " is public", !Modifier.isPublic(inner.getModifiers()));
            ownNames(inner);
            members(inner);
        }
    }

    private static void ownNames(Class<?> inner) {
        for (Method m : inner.getDeclaredMethods()) {
            boolean taken = FACE.stream().anyMatch(face -> face.contains(" " + m.getName() + "("));
            check.holds(m + " bears a public name", !taken);
        }
    }

    private static void words(String source) {
        String code = source.replaceAll("/\\*(?s:.*?)\\*/|//[^\n]*", "");
        Matcher m = Pattern.compile(RULED_OUT).matcher(code);
        while (m.find()) {
            check.due("'" + m.group() + "' stands in the source at", m.start(), -1);
        }
        check.holds("only Arrays is imported", code.replace("import java.util.Arrays;", "").indexOf("import") < 0);
        check.holds("7-bit signs alone", source.chars().allMatch(c -> c < 128));
    }

    private static void lengths(String source) {
        int begun = 0;
        int methods = 0;
        String[] lines = source.split("\n");
        for (int k = 0; k < lines.length; k++) {
            if (lines[k].matches("\\s+(private|public) [^=;]*\\) \\{") || lines[k].matches("\\s+(private|public) .*\\($")) {
                begun = k;
                methods++;
            } else if (lines[k].matches("    (    )?\\}")) {
                check.holds("the method in line " + (begun + 1) + " is too long", k - begun < LINES_MOST);
            }
        }
        check.holds(methods + " methods were found", methods > FACE.size());
    }

    /** The interface's parts, each ahead of its calls, the calls in the document's order. */
    private static void parts(String source, String document) {
        StringBuilder due = new StringBuilder();
        Matcher part = Pattern.compile("Ahead of the calls (.*?) the interface says: ---- (.*)\\.").matcher(document);
        while (part.find()) {
            due.append("// ---- ").append(part.group(2)).append(' ');
            due.append(part.group(1).replaceAll("[`,]", "")).append(' ');
        }
        StringBuilder found = new StringBuilder();
        Matcher line = Pattern.compile("(?m)^    (// ---- .*|public \\w+ (\\w+)\\(.*)$").matcher(source);
        while (line.find()) {
            found.append(line.group(2) == null ? line.group(1) : line.group(2)).append(' ');
        }
        check.holds("parts and calls are " + found + "and should be " + due, found.toString().equals(due.toString()));
    }
}
