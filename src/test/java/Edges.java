import java.io.IOException;
import java.nio.file.Files;
import java.nio.file.Path;
import java.util.ArrayList;
import java.util.LinkedHashMap;
import java.util.List;
import java.util.Map;
import java.util.regex.Matcher;
import java.util.regex.Pattern;

/** The document's sentences that name an edge: each is quoted where it is tested, and none may be left out. */
final class Edges {
    private static final Path DOCUMENT = Path.of("../shared/DOC.md");

    /** Words by which the document names an edge: ranges, answers below 0, refusals, what is empty or full, ties. */
    private static final Pattern NAMED = Pattern.compile("\\.\\.|-\\d|\\b(NONE|[Rr]efused|NoSuchElementException|at most"
            + "|at least|empty|without|missing|[Nn]one|too early|above|below|more than|like ones|equal ones|of as|as far"
            + "|put to|cut|can't|by 0|[Nn]othing|No SORTS|stays|1 to|behind 7)\\b");

    private final Map<String, String> sections = new LinkedHashMap<>();
    private final Map<String, boolean[]> quoted = new LinkedHashMap<>();

    Edges() throws IOException {
        String title = "";
        for (String line : Files.readAllLines(DOCUMENT)) {
            if (line.startsWith("## ")) {
                title = line.substring(3).replaceAll(":.*", "");
            } else if (!title.isEmpty()) {
                // What stands in ` ` is how a call is written, no sentence.
                sections.merge(title, line.replaceAll("`[^`]*`", ""), (a, b) -> a + " " + b);
            }
        }
        sections.replaceAll((name, text) -> text.replaceAll("\\s+", " "));
        sections.forEach((name, text) -> quoted.put(name, new boolean[text.length()]));
    }

    /** The answers that follow belong to this sentence of a promise. */
    void promise(int number, String sentence) {
        section("Promise " + number, sentence);
    }

    /** The answers that follow belong to this sentence of another section. */
    void section(String name, String sentence) {
        String text = sections.getOrDefault(name, "");
        int at = text.indexOf(sentence);
        Calls.promise(name + ", \"" + sentence + "\"");
        Calls.due("the document has the sentence", at >= 0, true);
        for (int p = at; at >= 0 && p < at + sentence.length(); p++) {
            quoted.get(name)[p] = true;
        }
    }

    void terms(String sentence) {
        section("Terms", sentence);
    }

    /** Each edge that a section names has to be in a sentence that was quoted. */
    void noneLeftOut() {
        List<String> names = new ArrayList<>(sections.keySet());
        names.removeAll(List.of("The public face", "Not promised"));
        for (String name : names) {
            Calls.promise(name);
            String text = sections.get(name);
            Matcher named = NAMED.matcher(text);
            while (named.find()) {
                String from = text.substring(named.start(), Math.min(text.length(), named.end() + 40));
                Calls.due("a test quotes \"" + from + "\"", quoted.get(name)[named.start()], true);
            }
        }
        Calls.promise("the document");
        for (int number = 1; number <= 47; number++) {
            Calls.due("it has promise " + number, sections.containsKey("Promise " + number), true);
        }
    }
}
