import java.io.IOException;
import java.nio.file.Files;
import java.nio.file.Path;
import java.util.ArrayList;
import java.util.Arrays;
import java.util.LinkedHashMap;
import java.util.List;
import java.util.Map;

/** The document, by its sections: each sentence is quoted where it is tested, and none may be left out. */
final class Document {
    private static final Path DOCUMENT = Path.of("../shared/DOC.md");

    private final Map<String, List<String>> lines = new LinkedHashMap<>();
    private final Map<String, String> sections = new LinkedHashMap<>();
    private final Map<String, boolean[]> quoted = new LinkedHashMap<>();

    Document() throws IOException {
        String title = "";
        for (String line : Files.readAllLines(DOCUMENT)) {
            if (line.startsWith("## ")) {
                title = line.substring(3).replaceAll(":.*", "");
                lines.put(title, new ArrayList<>());
            } else if (!title.isEmpty() && !line.isBlank() && !line.startsWith("```")) {
                lines.get(title).add(line.replaceAll("\\s+", " ").replaceAll("^ | $", "").replaceAll("^\\d+\\. ", ""));
            }
        }
        lines.forEach((name, told) -> {
            String text = String.join(" ", told);
            sections.put(name, text);
            quoted.put(name, new boolean[text.length()]);
        });
    }

    /** The answers that follow belong to this sentence of a promise. */
    void promise(int number, String sentence) {
        section("Promise " + number, sentence);
    }

    void terms(String sentence) {
        section("Terms", sentence);
    }

    /** The answers that follow belong to this sentence of another section. */
    void section(String name, String sentence) {
        String text = sections.getOrDefault(name, "");
        int at = text.indexOf(sentence);
        Calls.promise(name + ", \"" + sentence + "\"");
        Calls.due("the document has the sentence", at >= 0, true);
        if (at >= 0) {
            Arrays.fill(quoted.get(name), at, at + sentence.length(), true);
        }
    }

    /** A sentence that promises nothing that a call could show. */
    void free(String name, String sentence) {
        section(name, sentence);
    }

    /** The lines of a section that are not empty. */
    List<String> linesOf(String name) {
        return lines.getOrDefault(name, List.of());
    }

    /** Each word of each section has to be in a sentence that was quoted. */
    void noneLeftOut() {
        for (String name : sections.keySet()) {
            Calls.promise(name);
            String text = sections.get(name);
            boolean[] known = quoted.get(name);
            int from = 0;
            for (int p = 0; p <= known.length; p++) {
                if (p == known.length || known[p]) {
                    String left = text.substring(from, p);
                    Calls.due("a test quotes \"" + left + "\"", left.matches("[^A-Za-z0-9]*"), true);
                    from = p + 1;
                }
            }
        }
        Calls.promise("the document");
        for (int number = 1; number <= 47; number++) {
            Calls.due("it has promise " + number, sections.containsKey("Promise " + number), true);
        }
        Calls.due("sections", sections.size(), 47 + 4);
    }
}
