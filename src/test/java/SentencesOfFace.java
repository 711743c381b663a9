import java.io.IOException;
import java.lang.reflect.Method;
import java.lang.reflect.Modifier;
import java.nio.file.Files;
import java.nio.file.Path;
import java.util.regex.Matcher;
import java.util.regex.Pattern;

/** What the document says of the face: each line of it, what stands ahead of which calls, what is free. */
final class SentencesOfFace {
    private static final String HEADING = "---- ";

    private SentencesOfFace() {
    }

    static void all(Document doc) throws IOException {
        String source = Files.readString(Path.of("src/main/java/TypeAtNight.java"));
        lines(doc, source);
        signatures(doc, source);
        headings(doc, source);
        tale(doc);
        free(doc);
    }

    /** Each line of the face stands in the source, and no other public call. */
    private static void lines(Document doc, String source) {
        int calls = 0;
        for (String line : doc.linesOf("The public face")) {
            doc.section("The public face", line);
            calls += line.matches("public (int|boolean|long) \\w+\\(.*;") ? 1 : 0;
            if (!line.equals("}")) {
                String code = line.startsWith("import") || line.contains("=") ? line : line.replaceAll(";$", " {");
                Calls.due("lines of the source that are \"" + code + "\"", timesOf(code, source), 1);
            }
        }
        int open = 0;
        for (Method method : TypeAtNight.class.getDeclaredMethods()) {
            open += Modifier.isPublic(method.getModifiers()) ? 1 : 0;
        }
        Calls.due("public calls", open, calls);
    }

    private static int timesOf(String code, String source) {
        int times = 0;
        for (String line : source.split("\n")) {
            times += line.trim().equals(code) ? 1 : 0;
        }
        return times;
    }

    /** A promise says its call as the face does. */
    private static void signatures(Document doc, String source) {
        for (int number = 1; number <= 47; number++) {
            Matcher call = Pattern.compile("`(.*?)`:").matcher(String.join(" ", doc.linesOf("Promise " + number)));
            if (call.find()) {
                doc.promise(number, call.group());
                Calls.due("the source has it", timesOf("public " + call.group(1) + " {", source), 1);
            } else {
                Calls.due("promise " + number + " says its call", false, true);
            }
        }
    }

    /** A heading stands ahead of its calls, which come one behind the other, and of no others. */
    private static void headings(Document doc, String source) {
        String told = source.replaceAll("(// .*)\n *// ", "$1 ");
        StringBuilder whole = new StringBuilder();
        for (String line : doc.linesOf("Terms")) {
            Matcher heading = Pattern.compile("Ahead of the calls (.*) the interface says: " + HEADING + "(.*)\\.")
                    .matcher(line);
            if (heading.matches()) {
                doc.terms(line);
                String calls = heading.group(1).replaceAll("[`,]", "");
                Calls.due("calls behind it", callsBehind("// " + HEADING + heading.group(2) + "\n", told), calls);
                whole.append(calls).append(' ');
            }
        }
        Calls.due("calls behind all headings", whole.toString().split(" ").length, 46);
    }

    private static String callsBehind(String heading, String source) {
        int from = source.indexOf(heading);
        if (from < 0) {
            return "no such heading";
        }
        int to = source.indexOf("// " + HEADING, from + heading.length());
        Matcher call = Pattern.compile("\n    public \\w+ (\\w+)\\(").matcher(source.substring(from, to));
        StringBuilder calls = new StringBuilder();
        while (call.find()) {
            calls.append(calls.length() == 0 ? "" : " ").append(call.group(1));
        }
        return calls.toString();
    }

    /** What it is about, as a tale: an a that was in a murder, and next week's prices. */
    private static void tale(Document doc) {
        doc.section("What it is", "Type is distributed at night: after they have pulled the paper it is all to go back "
                + "in its boxes, and it mixes, so that an a that was in a murder will come up in next week's prices "
                + "with a sort of look; sorts, texts and weeks told as texts; how a sort's mood goes by night by a rule "
                + "told as a text; sorts by letter, wear and mood, texts that are set with a feeling, nights, sorts "
                + "that are moved, cleaned, cast anew, undone; what a text tells, how often it can be set, what is "
                + "short, moods later, when they are settled, when it goes round; by which sorts a text bears a told "
                + "feeling, in how many ways; which words can be set at once, which sorts to clean; boxes so that told "
                + "letters do not mix; laws of mixing; which sort it was; how likely a text can be read; a galley by "
                + "turns; news at rest; what another rule would do; and years drawn by a seed.");
        TypeAtNight x = Calls.with("a0+0;a0+0;c0+0");
        Calls.due("an a in a murder", Calls.put(x, "a").sets(-9), 1);
        Calls.due("what the other a tells", Calls.put(x, "a").tells(), 200);
        Calls.due("all back in its boxes", x.nights(1), 3);
        // By (b/k-m)/2 each goes half of the way to the other: 4 up, 4 down.
        Calls.each("it has mixed", x, 2, 5, 6, 10);
        Calls.due("both in next week's prices", Calls.put(x, "aca").tells(), 191);
        Calls.due("cleaned", x.cleans(1), 6);
        Calls.due("cast anew", x.casts(0), 1);
        Calls.due("undone", x.undo(), 3);
        Calls.due("undone", x.undo(), 2);
        Calls.each("as it was", x, 2, 5, 6, 10);
    }

    private static void free(Document doc) {
        doc.free("What it is", "what later calls answer is free.");
        doc.free("Not promised", "How the state is held inside the object is free, as are the speed of each call, the "
                + "text of toString and the behaviour of equals and hashCode. Use of one object from several threads "
                + "at once is not promised to be safe. Nothing is promised beyond the answers and state changes "
                + "described above, and nothing about an object after its 512th call.");
    }
}
