import java.io.IOException;
import java.nio.file.Files;
import java.nio.file.Path;
import java.util.ArrayList;
import java.util.List;
import java.util.regex.Matcher;
import java.util.regex.Pattern;

/** README.md's example, line by line: the calls that stand there answer what stands behind them; run in the project. */
public final class ReadmeTest {
    private static final Pattern LINE = Pattern.compile("(x\\..*\\)); +// ([^ :]+)(: .*)?");

    private final LimbRows x = new LimbRows();
    private final List<String> told = new ArrayList<>();
    private int line = 0;

    private ReadmeTest() throws IOException {
        for (String text : Files.readAllLines(Path.of("README.md"))) {
            if (text.startsWith("x.")) {
                told.add(text);
            }
        }
    }

    public static void main(String[] args) throws IOException {
        new ReadmeTest().example();
        Checks.finish();
    }

    private void example() {
        due("x.widen(0, 4)", x.widen(0, 4));
        due("x.set(1, 1000000007)", x.set(1, 1000000007));
        due("x.set(2, -3)", x.set(2, -3));
        due("x.addProduct(0, 1, 2)", x.addProduct(0, 1, 2));
        due("x.nearest(0, 1)", x.nearest(0, 1));
        due("x.divide(0, 7)", x.divide(0, 7));
        due("x.limb(0, 0)", x.limb(0, 0));
        due("x.limb(0, 4)", x.limb(0, 4));
        due("x.length(0)", x.length(0));
        due("x.widen(0, 1)", x.widen(0, 1));
        due("x.times(0, 1000)", x.times(0, 1000));
        Checks.due("what one limb keeps", x.limb(0, 0), 462648800);
        due("x.compare(0, 1)", x.compare(0, 1));
        Checks.due("the lines of the example", line, told.size());
    }

    private void due(String call, Object answer) {
        Matcher here = LINE.matcher(line < told.size() ? told.get(line) : "");
        line++;
        boolean reads = here.matches();
        Checks.due("README.md has, as line " + line + " of the example", reads ? here.group(1) : "nothing", call);
        Checks.due("README.md: " + call, reads ? here.group(2) : "nothing", String.valueOf(answer));
    }
}
