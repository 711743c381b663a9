import java.io.IOException;
import java.nio.file.Files;
import java.nio.file.Path;
import java.util.ArrayList;
import java.util.List;
import java.util.NoSuchElementException;
import java.util.function.Supplier;

/** The calls that README.md shows, made one behind the other on one object; run from the project's root. */
public final class ReadmeTest {
    private static final String MADE = "TypeAtNight house = new TypeAtNight();";

    private final List<String> shown;
    private int next = 0;

    private ReadmeTest(List<String> shown) {
        this.shown = shown;
    }

    public static void main(String[] args) throws IOException {
        Calls.promise("README.md");
        new ReadmeTest(shown()).go();
        Calls.close("ReadmeTest");
    }

    /** The lines of Java on the page. */
    private static List<String> shown() throws IOException {
        List<String> shown = new ArrayList<>();
        boolean java = false;
        for (String line : Files.readAllLines(Path.of("README.md"))) {
            if (line.startsWith("```")) {
                java = line.equals("```java");
            } else if (java) {
                shown.add(line);
            }
        }
        return shown;
    }

    private void go() {
        Calls.due("the first line", next < shown.size() ? shown.get(next) : "", MADE);
        next++;
        TypeAtNight house = new TypeAtNight();
        says("house.sign('a' << 24 | '0' << 16 | '+' << 8 | '4');",
                () -> house.sign('a' << 24 | '0' << 16 | '+' << 8 | '4'));
        says("house.sorts();", () -> house.sorts());
        says("house.sign('a' << 24);", () -> house.sign('a' << 24));
        says("house.end(1);", () -> house.end(1));
        says("house.sets(2);", () -> house.sets(2));
        says("house.sign('a' << 24 | '0' << 16 | 'x' << 8 | '4');",
                () -> house.sign('a' << 24 | '0' << 16 | 'x' << 8 | '4'));
        says("house.sorts();", () -> house.sorts());
        says("house.count(10);", () -> house.count(10));
        says("house.count(9);", () -> house.count(9));
        says("house.row(0);", () -> house.row(0));
        says("house.row(1);", () -> house.row(1));
        says("house.nights(1);", () -> house.nights(1));
        says("house.row(0);", () -> house.row(0));
        says("house.sort(0, 2);", () -> house.sort(0, 2));
        says("house.nights(61);", () -> house.nights(61));
        says("house.end(81);", () -> house.end(81));
        says("house.moves(0, 0);", () -> house.moves(0, 0));
        says("house.undo();", () -> house.undo());
        says("house.row(2);", () -> house.row(2));
        Calls.due("lines of Java", shown.size(), next);
    }

    /** The next line on the page is this call, with this answer behind it. */
    private void says(String call, Supplier<Object> made) {
        String answer;
        try {
            answer = made.get().toString();
        } catch (NoSuchElementException e) {
            answer = "NoSuchElementException";
        }
        String line = next < shown.size() ? shown.get(next) : "";
        Calls.due("line " + next + " of Java", line.replaceAll(" +// ", " // ").replaceAll("(// [^:]*):.*", "$1"),
                call + " // " + answer);
        next++;
    }
}
