import java.io.IOException;
import java.lang.reflect.Method;
import java.nio.file.Files;
import java.nio.file.Path;
import java.util.HashMap;
import java.util.List;
import java.util.Map;
import java.util.Set;
import java.util.TreeSet;
import java.util.regex.MatchResult;
import java.util.regex.Matcher;
import java.util.regex.Pattern;
import java.util.stream.Collectors;
import java.util.stream.Stream;

/** README.md holds: its example answers what it tells, and its tables name all calls, their errors, and all tests. */
public final class ReadmeTest {
    private static final int PROMISES = 28;
    private static final String CODES = "NO_SUCH BAD_VALUE BAD_TEXT TOO_MANY NOT_POSSIBLE NONE";
    private static final Pattern CODE = Pattern.compile("\\b(" + CODES.replace(' ', '|') + ")\\b");
    private static final Pattern STEP = Pattern.compile("(?:int (\\w+) = )?seats\\.(\\w+)\\((.*)\\); +// (-?\\d+)(?:: .*)?");
    private static final Pattern FACE = Pattern.compile("^`int (\\w+\\(.*?\\))`: ");

    private final Check check = new Check("ReadmeTest");
    private final List<String> lines;

    private ReadmeTest(List<String> lines) {
        this.lines = lines;
    }

    public static void main(String[] args) throws Exception {
        ReadmeTest test = new ReadmeTest(Files.readAllLines(Path.of("README.md")));
        test.example();
        test.calls(new Sentences(Path.of("../shared/DOC.md")));
        test.codes();
        test.tests();
        test.check.end();
    }

    private void example() throws Exception {
        int start = lines.indexOf("```java") + 1;
        check.same("the first line of the example", lines.get(start), "TeaSeats seats = new TeaSeats();");
        TeaSeats seats = new TeaSeats();
        Map<String, Integer> names = new HashMap<>();
        for (String line : lines.subList(start + 1, start + lines.subList(start, lines.size()).indexOf("```"))) {
            Matcher step = STEP.matcher(line);
            if (!step.matches()) {
                check.fail("the example has a line that is not understood: " + line);
                continue;
            }
            int answer = answered(seats, step.group(2), step.group(3), names);
            check.due(line, answer, Integer.parseInt(step.group(4)));
            if (step.group(1) != null) {
                names.put(step.group(1), answer);
            }
        }
        check.due("the example has calls", names.isEmpty() ? 0 : 1, 1);
    }

    private static int answered(TeaSeats seats, String name, String with, Map<String, Integer> names) throws Exception {
        String[] words = with.isEmpty() ? new String[0] : with.split(", ");
        Object[] values = new Object[words.length];
        for (Method method : TeaSeats.class.getDeclaredMethods()) {
            if (method.getName().equals(name) && method.getParameterCount() == words.length) {
                for (int index = 0; index < words.length; index++) {
                    long value = valueOf(words[index], names);
                    values[index] = method.getParameterTypes()[index] == long.class ? (Object) value : (Object) (int) value;
                }
                return (int) method.invoke(seats, values);
            }
        }
        throw new AssertionError("the example calls " + name + "(" + with + ")");
    }

    private static long valueOf(String word, Map<String, Integer> names) throws Exception {
        if (word.startsWith("TeaSeats.")) {
            return TeaSeats.class.getField(word.substring(word.indexOf('.') + 1)).getInt(null);
        }
        return names.containsKey(word) ? names.get(word) : Long.decode(word.replaceAll("L$", ""));
    }

    /** Of each call what the document says: its parameters, whether it is a change, and its errors in their order. */
    private void calls(Sentences document) {
        Set<String> told = new TreeSet<>();
        for (int promise = 2; promise <= PROMISES; promise++) {
            String words = document.text("Promise " + promise);
            Matcher face = FACE.matcher(words);
            check.due("promise " + promise + " tells a call", face.find() ? 1 : 0, 1);
            String call = "`" + face.group(1).replaceAll("\\b(int|long) ", "") + "`";
            String change = words.contains("This is a change") ? "yes" : "";
            String codes = CODE.matcher(words).results().map(MatchResult::group).collect(Collectors.joining(", "));
            String[] row = rowOf(call);
            check.due("columns of the row of " + call, row.length, 4);
            check.same(call + " is a change", row[1], change);
            check.same("the errors of " + call, row[3].replace("`", ""), codes);
            told.add(call);
        }
        Set<String> inTable = firstCells().filter(cell -> cell.matches("`\\w+\\(.*\\)`")).collect(Collectors.toCollection(TreeSet::new));
        check.same("the calls of the table", inTable.toString(), told.toString());
    }

    private void codes() throws Exception {
        for (String code : CODES.split(" ")) {
            check.same(code, rowOf("`" + code + "`")[1], "" + TeaSeats.class.getField(code).getInt(null));
        }
    }

    private void tests() throws IOException {
        Set<String> inTable = firstCells().filter(cell -> cell.matches("`\\w+Test`")).collect(Collectors.toCollection(TreeSet::new));
        Set<String> there = new TreeSet<>();
        try (Stream<Path> files = Files.list(Path.of("src/test/java"))) {
            files.map(file -> file.getFileName().toString()).filter(file -> file.endsWith("Test.java"))
                .forEach(file -> there.add("`" + file.replace(".java", "") + "`"));
        }
        check.same("the tests of the table", inTable.toString(), there.toString());
    }

    private Stream<String> firstCells() {
        return lines.stream().filter(line -> line.startsWith("| ")).map(line -> cellsOf(line)[0]);
    }

    private String[] rowOf(String first) {
        List<String> rows = lines.stream().filter(line -> line.startsWith("| " + first + " |")).toList();
        check.due("rows of " + first, rows.size(), 1);
        return rows.isEmpty() ? new String[] {first, "", "", ""} : cellsOf(rows.get(0));
    }

    private static String[] cellsOf(String row) {
        String[] cells = row.substring(1, row.lastIndexOf('|')).split("\\|", -1);
        for (int cell = 0; cell < cells.length; cell++) {
            cells[cell] = cells[cell].strip();
        }
        return cells;
    }
}
