import java.io.IOException;
import java.lang.reflect.Field;
import java.lang.reflect.Method;
import java.lang.reflect.Modifier;
import java.nio.file.Files;
import java.nio.file.Path;
import java.util.ArrayList;
import java.util.Arrays;
import java.util.List;
import java.util.TreeSet;
import java.util.regex.Matcher;
import java.util.regex.Pattern;
import java.util.stream.Stream;

/** The class keeps to those rules of LANGUAGE.md that its text or its compiled form can show; run in the project. */
public final class LanguageTest {
    private static final Path MAIN = Path.of("src/main/java");
    private static final Pattern LIBRARY = Pattern.compile("\\b(Integer|Long|Math|Arrays|System)\\.(\\w+)");
    private static final Pattern MADE = Pattern.compile("\\bnew (\\w+)");
    private static final Pattern HEAD = Pattern.compile("    (    )?(public|private) .*\\) (throws .*)?\\{");

    private LanguageTest() {
    }

    public static void main(String[] args) throws IOException {
        oneFile();
        List<String> lines = code();
        library(lines);
        leftOut(lines);
        exceptions(lines);
        shortMethods(lines);
        counts();
        Checks.finish();
    }

    private static void oneFile() throws IOException {
        Checks.about("LANGUAGE.md: the program is one file");
        List<String> files = new ArrayList<>();
        try (Stream<Path> all = Files.walk(MAIN)) {
            all.filter(Files::isRegularFile).forEach(file -> files.add(file.getFileName().toString()));
        }
        Checks.due("the files under " + MAIN, files, List.of("LimbRows.java"));
    }

    /** The lines of the class without comments and texts, in which any word may stand. */
    private static List<String> code() throws IOException {
        String all = Files.readString(MAIN.resolve("LimbRows.java"));
        String bare = Pattern.compile("/\\*.*?\\*/", Pattern.DOTALL).matcher(all).replaceAll("");
        return Arrays.asList(bare.replaceAll("//[^\n]*", "").replaceAll("\"[^\"\n]*\"", "\"\"").split("\n"));
    }

    private static void library(List<String> lines) {
        Checks.about("LANGUAGE.md, rule 4: only what stands there");
        List<String> allowed = List.of("Arrays.copyOf", "Integer.numberOfLeadingZeros",
            "Integer.numberOfTrailingZeros", "Math.max", "Math.min");
        for (String line : lines) {
            if (line.startsWith("import")) {
                Checks.due("the import", line, "import java.util.Arrays;");
            }
            Matcher use = LIBRARY.matcher(line);
            while (!line.startsWith("import") && use.find()) {
                Checks.due(use.group() + " is looked up in rule 4", allowed.contains(use.group()), true);
            }
        }
    }

    private static void leftOut(List<String> lines) {
        Checks.about("LANGUAGE.md, rules 1, 2, 5, 6 and 13: what the class does without");
        Pattern without = Pattern.compile("\\b(package|protected|try|catch|finally|synchronized|assert|instanceof"
            + "|native|volatile|transient|double|float|Thread|Random|Object|static \\{)|->|::");
        for (String line : lines) {
            Checks.due("without these words: " + line, without.matcher(line).find(), false);
        }
    }

    private static void exceptions(List<String> lines) {
        Checks.about("LANGUAGE.md, rule 6: throw new E(\"a written text\")");
        TreeSet<String> made = new TreeSet<>();
        for (String line : lines) {
            if (line.contains("throw ")) {
                Checks.due("the throw" + line, line.matches(
                    " +throw new (IndexOutOfBoundsException|IllegalArgumentException)\\(\"\"\\);"), true);
            }
            Matcher here = MADE.matcher(line);
            while (here.find()) {
                made.add(here.group(1));
            }
        }
        Checks.due("what is made", made, new TreeSet<>(List.of("Row", "int", "IndexOutOfBoundsException",
            "IllegalArgumentException")));
    }

    private static void shortMethods(List<String> lines) {
        Checks.about("LANGUAGE.md, rule 11: methods stay short");
        int heads = 0;
        for (int k = 0; k < lines.size(); k++) {
            if (HEAD.matcher(lines.get(k)).matches()) {
                heads++;
                String end = lines.get(k).replaceAll("\\S.*", "}");
                int last = lines.subList(k, lines.size()).indexOf(end);
                Checks.due("60 lines at most:" + lines.get(k), last > 0 && last < 60, true);
            }
        }
        int methods = LimbRows.class.getDeclaredMethods().length + LimbRows.class.getDeclaredConstructors().length;
        for (Class<?> inside : LimbRows.class.getDeclaredClasses()) {
            methods += inside.getDeclaredMethods().length + inside.getDeclaredConstructors().length;
        }
        Checks.due("the methods and constructors looked at", heads, methods);
    }

    private static void counts() {
        Checks.about("LANGUAGE.md, rules 5 and 11: parameters, classes, fields and static fields");
        Class<?>[] inside = LimbRows.class.getDeclaredClasses();
        Checks.due("12 classes at most", inside.length < 12, true);
        countsOf(LimbRows.class);
        for (Class<?> type : inside) {
            countsOf(type);
        }
    }

    private static void countsOf(Class<?> type) {
        for (Method m : type.getDeclaredMethods()) {
            Checks.due("7 parameters at most: " + m, m.getParameterCount() <= 7, true);
        }
        int fields = 0;
        for (Field f : type.getDeclaredFields()) {
            if (!Modifier.isStatic(f.getModifiers())) {
                fields++;
            } else {
                Checks.due("a constant of int or long: " + f, f.getType() == int.class || f.getType() == long.class, true);
            }
        }
        Checks.due("20 fields at most in " + type, fields <= 20, true);
    }
}
