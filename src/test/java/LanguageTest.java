import java.io.IOException;
import java.lang.reflect.Field;
import java.lang.reflect.Method;
import java.lang.reflect.Modifier;
import java.nio.file.Files;
import java.nio.file.Path;
import java.util.ArrayList;
import java.util.LinkedHashMap;
import java.util.List;
import java.util.Map;
import java.util.Set;
import java.util.TreeSet;
import java.util.regex.Matcher;
import java.util.regex.Pattern;

/** Those rules of LANGUAGE.md that the text of the program shows, or its classes. */
public final class LanguageTest {
    private static final int MOST_LINES = 60, MOST_PARAMETERS = 7, MOST_DEEP = 8, MOST_CLASSES = 12, MOST_FIELDS = 20;
    private static final String[] REFUSED = {
        "\\b(throw|throws|try|catch|synchronized|assert|import|package|volatile|native|float|double)\\b",
        "->", "::", "\\bstatic\\s*\\{", "[^\\x00-\\x7f]", "\\w+Exact\\b", "\\bprotected\\b",
        "\\b(equals|hashCode|toString|Object|System\\.(?!arraycopy)\\w*)\\b", "\"\\s*\\+|\\+\\s*\"",
    };
    private static final Pattern METHOD =
        Pattern.compile("( {4}| {8})(?!if |for |while |switch |do |else |return )\\w[\\w\\[\\] ]*?(\\w+)\\(.*\\) \\{");
    private static final Pattern CALL = Pattern.compile("(\\w+)\\(");

    /** What each method calls, by name: methods of one name in several classes are taken as one. */
    private final Map<String, Set<String>> calls = new LinkedHashMap<>();
    private final Check check = new Check("LanguageTest");

    public static void main(String[] args) throws IOException {
        new LanguageTest().look(Files.readString(Path.of("src/main/java/TeaSeats.java")).split("\n"));
    }

    private void look(String[] lines) {
        for (int line = 0; line < lines.length; line++) {
            lines[line] = lines[line].replaceAll("^\\s*(//|/\\*\\*).*", "");
            for (String refused : REFUSED) {
                Matcher found = Pattern.compile(refused).matcher(lines[line]);
                check.same("line " + (line + 1), found.find() ? found.group() : "", "");
            }
            objectsAreMadeByConstructorsAlone(line + 1, lines[line]);
        }
        methodsAreShort(lines);
        callsGoEightDeepAtMost();
        classesAreFewAndSmall();
        check.end();
    }

    /** All calls of one run live in one room: so no call makes an object. */
    private void objectsAreMadeByConstructorsAlone(int line, String code) {
        boolean field = code.contains("private final ");
        boolean ring = code.strip().equals("ring[place] = new Room();");
        check.same("line " + line, code.matches(".*\\bnew\\b.*") && !field && !ring ? code : "", "");
    }

    private void methodsAreShort(String[] lines) {
        for (int line = 0; line < lines.length; line++) {
            Matcher method = METHOD.matcher(lines[line]);
            if (method.matches()) {
                String end = method.group(1) + "}";
                Set<String> called = calls.computeIfAbsent(method.group(2), name -> new TreeSet<>());
                int start = line;
                while (line + 1 < lines.length && !lines[line].equals(end)) {
                    line++;
                    CALL.matcher(lines[line]).results().forEach(call -> called.add(call.group(1)));
                }
                check.due("lines of " + method.group(2), Math.max(line - start + 1, MOST_LINES), MOST_LINES);
            }
        }
    }

    private void callsGoEightDeepAtMost() {
        for (Method method : TeaSeats.class.getDeclaredMethods()) {
            check.due("the text has " + method.getName(), calls.containsKey(method.getName()) ? 1 : 0, 1);
        }
        for (String name : calls.keySet()) {
            List<String> deepest = deepestFrom(name, List.of());
            check.same("what goes too deep", deepest.size() > MOST_DEEP ? deepest.toString() : "", "");
        }
    }

    private List<String> deepestFrom(String name, List<String> open) {
        List<String> here = new ArrayList<>(open);
        here.add(name);
        List<String> deepest = here;
        for (String called : calls.get(name)) {
            if (calls.containsKey(called) && !here.contains(called)) {
                List<String> deeper = deepestFrom(called, here);
                deepest = deeper.size() > deepest.size() ? deeper : deepest;
            }
        }
        return deepest;
    }

    private void classesAreFewAndSmall() {
        List<Class<?>> classes = new ArrayList<>(List.of(TeaSeats.class.getDeclaredClasses()));
        classes.add(TeaSeats.class);
        check.due("classes", Math.max(classes.size(), MOST_CLASSES), MOST_CLASSES);
        for (Class<?> one : classes) {
            check.due("classes inside " + one, one.getDeclaredClasses().length, one == TeaSeats.class ? classes.size() - 1 : 0);
            int fields = 0;
            for (Field field : one.getDeclaredFields()) {
                boolean shared = Modifier.isStatic(field.getModifiers());
                check.due(field + " is final, if static", shared && !Modifier.isFinal(field.getModifiers()) ? 1 : 0, 0);
                fields += shared ? 0 : 1;
            }
            check.due("fields of " + one, Math.max(fields, MOST_FIELDS), MOST_FIELDS);
            for (Method method : one.getDeclaredMethods()) {
                check.due("parameters of " + method, Math.max(method.getParameterCount(), MOST_PARAMETERS), MOST_PARAMETERS);
            }
        }
    }
}
