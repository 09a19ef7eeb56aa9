import java.io.IOException;
import java.lang.reflect.Method;
import java.lang.reflect.Modifier;
import java.nio.file.Files;
import java.nio.file.Path;
import java.util.List;
import java.util.regex.Matcher;
import java.util.regex.Pattern;

/** README.md tells of the class as it is: its example answers as told there, its table has every call. */
public final class ReadmeTest {
    private static final Due T = new Due();

    private final List<String> lines;
    private int compared = 0;

    private ReadmeTest(List<String> lines) {
        this.lines = lines;
    }

    public static void main(String[] args) throws IOException {
        Path readme = Path.of(System.getProperty("matrixkin.readme", "README.md"));
        ReadmeTest test = new ReadmeTest(Files.readAllLines(readme));
        test.example();
        test.table();
        T.holds("how to run the tests", test.lines.contains(".ci/run"));
        T.end();
    }

    private void example() {
        MatrixKin x = new MatrixKin();
        T.holds("the feeding line", lines.contains("x.feed('R'); x.feed('R'); x.feed('L');"));
        Due.feed(x, "RRL");
        asTold("int s = x.write();", x.write());
        asTold("int u = x.put(1, 2, 1, 3);", x.put(1, 2, 1, 3));
        asTold("x.pair(s, u, 0);", x.pair(0, 1, 0));
        asTold("x.run(s, 0);", x.run(0, 0));
        T.due("the wheel's second run", x.run(0, 1), 1);
        asTold("x.pair(s, u, 2);", x.pair(0, 1, 2));
        asTold("x.raise(s, 3);", x.raise(0, 3));
        asTold("x.undo(1);", x.undo(1));
        long told = lines.stream().filter(line -> line.matches(".*; +// -?[0-9]+: .*")).count();
        T.due("answers told in the example", compared, told);
    }

    private void asTold(String call, int got) {
        compared++;
        Pattern row = Pattern.compile(Pattern.quote(call) + " +// (-?[0-9]+): .*");
        for (String line : lines) {
            Matcher m = row.matcher(line);
            if (m.matches()) {
                T.due(call, got, Integer.parseInt(m.group(1)));
                return;
            }
        }
        T.holds("in the example: " + call, false);
    }

    private void table() {
        for (Method m : MatrixKin.class.getDeclaredMethods()) {
            if (Modifier.isPublic(m.getModifiers())) {
                String row = rowOf(m.getName());
                T.holds("a row for " + m.getName(), !row.isEmpty());
                T.due("parameters of " + m.getName(), parametersIn(row), m.getParameterCount());
            }
        }
        refusals("feed", "`OUTSIDE`, `FULL`");
        refusals("write", "`FULL`");
        refusals("fault", "");
        refusals("put", "`OUTSIDE`, `NOT`, `FULL`");
        refusals("told", "`OUTSIDE`");
        refusals("number", "`UNKNOWN`, `OUTSIDE`");
        refusals("square", "`UNKNOWN`, `OUTSIDE`");
        refusals("run", "`UNKNOWN`");
        refusals("multiply", "`UNKNOWN`, `FULL`, `NOT`");
        refusals("back", "`UNKNOWN`");
        refusals("carry", "`UNKNOWN`, `NOT`");
        refusals("raise", "`UNKNOWN`, `OUTSIDE`, `NOT`");
        refusals("take", "`UNKNOWN`");
        refusals("drift", "`OUTSIDE`");
        refusals("undo", "`OUTSIDE`, `NOT`");
        refusals("pair", "`UNKNOWN`, `OUTSIDE`");
        refusals("note", "`UNKNOWN`, `FULL`");
        refusals("tear", "");
        refusals("seed", "`OUTSIDE`");
        refusals("keep", "`UNKNOWN`");
        refusals("goBack", "`UNKNOWN`, `NOT`");
    }

    private String rowOf(String name) {
        for (String line : lines) {
            if (line.startsWith("| `" + name + "(")) {
                return line;
            }
        }
        return "";
    }

    private static int parametersIn(String row) {
        int open = row.indexOf('(');
        int shut = row.indexOf(')');
        if (open < 0 || shut <= open + 1) {
            return 0;
        }
        return row.substring(open + 1, shut).split(",").length;
    }

    private void refusals(String name, String told) {
        String[] cells = rowOf(name).split("\\|", -1);
        T.holds("refusals of " + name, cells.length == 5 && cells[3].trim().equals(told));
    }
}
