import java.io.IOException;
import java.nio.file.Files;
import java.nio.file.Path;
import java.util.ArrayList;
import java.util.LinkedHashMap;
import java.util.List;
import java.util.Map;

/** The sections of the document, and which of their words the tests have quoted. */
final class Sentences {
    private final Map<String, String> sections = new LinkedHashMap<>();
    private final Map<String, boolean[]> quoted = new LinkedHashMap<>();

    Sentences(Path document) throws IOException {
        String section = "";
        for (String line : Files.readAllLines(document)) {
            if (line.startsWith("#")) {
                // Of 'Promise 6: bow' only the number names the section.
                section = line.replaceAll("^#+ *|:.*$", "");
            } else {
                sections.merge(section, line.strip(), (ahead, here) -> (ahead + " " + here).strip());
            }
        }
        sections.replaceAll((name, text) -> text.replaceAll("\\s+", " "));
        sections.forEach((name, text) -> quoted.put(name, new boolean[text.length()]));
    }

    /** Marks words of a section as quoted, and tells whether they stand there. */
    boolean quote(String section, String words) {
        String text = text(section);
        int start = text.indexOf(words);
        boolean found = start >= 0;
        while (start >= 0) {
            for (int index = start; index < start + words.length(); index++) {
                quoted.get(section)[index] = true;
            }
            start = text.indexOf(words, start + words.length());
        }
        return found;
    }

    /** All words of a section that nobody has quoted. */
    List<String> unquoted(String section) {
        List<String> found = new ArrayList<>();
        String text = text(section);
        StringBuilder words = new StringBuilder();
        for (int index = 0; index <= text.length(); index++) {
            if (index < text.length() && !quoted.get(section)[index]) {
                words.append(text.charAt(index));
            } else {
                if (words.toString().matches(".*[A-Za-z0-9].*")) {
                    found.add(section + ": " + words.toString().strip());
                }
                words.setLength(0);
            }
        }
        return found;
    }

    /** All words of a section, in one line; none if there is no such section. */
    String text(String section) {
        return sections.getOrDefault(section, "");
    }

    boolean has(String section) {
        return sections.containsKey(section);
    }
}
