import java.io.IOException;
import java.nio.file.Files;
import java.nio.file.Path;
import java.util.regex.Matcher;
import java.util.regex.Pattern;

/** Those rules of LANGUAGE.md that the text of the program shows. */
public final class LanguageTest {
    private static final String[] REFUSED = {
        "\\b(throw|throws|try|catch|synchronized|assert|import|package|volatile|native|float|double)\\b",
        "->", "::", "\\bstatic\\s*\\{", "[^\\x00-\\x7f]", "\\w+Exact\\b", "\\bprotected\\b",
        "\\b(equals|hashCode|toString|Object|System\\.(?!arraycopy)\\w*)\\b", "\"\\s*\\+|\\+\\s*\"",
    };

    public static void main(String[] args) throws IOException {
        Check check = new Check("LanguageTest");
        String[] lines = Files.readString(Path.of("src/main/java/TeaSeats.java")).split("\n");
        for (int line = 0; line < lines.length; line++) {
            String code = lines[line].replaceAll("^\\s*(//|/\\*\\*).*", "");
            for (String refused : REFUSED) {
                Matcher found = Pattern.compile(refused).matcher(code);
                check.same("line " + (line + 1), found.find() ? found.group() : "", "");
            }
            objectsAreMadeByConstructorsAlone(check, line + 1, code);
        }
        methodsAreShort(check, lines);
        check.end();
    }

    /** All calls of one run live in one room: so no call makes an object. */
    private static void objectsAreMadeByConstructorsAlone(Check check, int line, String code) {
        boolean field = code.contains("private final ");
        boolean ring = code.strip().equals("ring[place] = new Room();");
        check.same("line " + line, code.matches(".*\\bnew\\b.*") && !field && !ring ? code : "", "");
    }

    private static void methodsAreShort(Check check, String[] lines) {
        int start = -1;
        for (int line = 0; line < lines.length; line++) {
            if (lines[line].matches(" {4}(    )?[a-z].*\\) \\{")) {
                start = line;
            }
            if (start >= 0 && lines[line].matches(" {4}(    )?\\}")) {
                check.due("the method at line " + (start + 1) + " is short", line - start <= 60 ? 1 : 0, 1);
                start = -1;
            }
        }
    }
}
