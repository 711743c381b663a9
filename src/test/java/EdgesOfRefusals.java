import java.util.ArrayList;
import java.util.List;
import java.util.NoSuchElementException;
import java.util.function.Supplier;
import java.util.function.ToIntFunction;

/** Edges that the second of the "Terms" names: the ROW, fractions, questions, refused calls and their order. */
final class EdgesOfRefusals {
    /** With something of each kind: a text set, a NIGHT gone by, one moved, something heard, seen, kept. */
    private static final Supplier<TypeAtNight> RICH = () -> {
        TypeAtNight x = Calls.with("a0+4;a2-2;b1+3;c9+0;b0-5", "(b-m)/3+n");
        Calls.set(x, "c", -3);
        x.nights(2);
        x.keep(0);
        x.moves(1, 5);
        Calls.set(x, "ab", 2);
        x.heard(4, 0);
        x.saw(0, 9, 4);
        return x;
    };

    private EdgesOfRefusals() {
    }

    static void all(Document doc) {
        row(doc);
        rowsCompared(doc);
        fractions(doc);
        questions(doc);
        nightsToCome(doc);
        refused(doc);
        textThatIsRead(doc);
        noneAhead(doc);
        textAhead(doc);
        rowStays(doc);
        rowStaysWithoutRefusal(doc);
    }

    /** A call, by its name, that reads this text first if there is one. */
    private record Call(String name, String text, ToIntFunction<TypeAtNight> asked, long want) {
    }

    private static Call call(String name, ToIntFunction<TypeAtNight> asked, long want) {
        return new Call(name, "", asked, want);
    }

    /** Calls with numbers out of their ranges, or for which there is none such. */
    private static List<Call> refusedByNumbers() {
        List<Call> calls = new ArrayList<>(List.of(
                call("end(-1)", x -> x.end(-1) ? 1 : 0, 0),
                call("end(81)", x -> x.end(81) ? 1 : 0, 0),
                call("sheet(4)", x -> x.sheet(4, 1, 1, 1), -1),
                call("sheet(2, 13)", x -> x.sheet(2, 13, 1, 1), -1),
                call("sheet(2, -1)", x -> x.sheet(2, -1, 1, 1), -2),
                call("nights(61)", x -> x.nights(61), -1),
                call("moves(5, 0)", x -> x.moves(5, 0), -1),
                call("moves(1, 8)", x -> x.moves(1, 8), -1),
                call("moves(0, 1)", x -> x.moves(0, 1), -2),
                call("moves(1, 5)", x -> x.moves(1, 5), -3),
                call("cleans(5)", x -> x.cleans(5), -1),
                call("casts(5)", x -> x.casts(5), -1),
                call("later(5, 0)", x -> x.later(5, 0), -1),
                call("later(0, 100)", x -> x.later(0, 100), -1),
                call("gravest(100)", x -> x.gravest(100), -1),
                call("blows(21, 0)", x -> x.blows(21, 0), -1),
                call("blows(0, 10)", x -> x.blows(0, 10), -1),
                call("chord(73)", x -> x.chord(73), -100),
                call("chord(72)", x -> x.chord(72), -2)));
        calls.addAll(List.of(
                call("heard(0, 8)", x -> x.heard(0, 8), -1),
                call("heard(5, 0)", x -> x.heard(5, 0), -1),
                call("saw(0, 0, 10)", x -> x.saw(0, 0, 10), -1),
                call("galley(61)", x -> x.galley(61), -1),
                call("rests(21)", x -> x.rests(21), -1),
                call("years(1, 61)", x -> x.years(1, 61), -1),
                call("years(1, 0)", x -> x.years(1, 0), -1),
                call("keep(2)", x -> x.keep(2) ? 1 : 0, 0),
                call("again(1)", x -> x.again(1) ? 1 : 0, 0),
                call("count(11)", x -> x.count(11), -1),
                call("sort(5, 0)", x -> thrown(() -> x.sort(5, 0)), 1),
                call("box(8, 0)", x -> thrown(() -> x.box(8, 0)), 1),
                call("row(99)", x -> thrown(() -> x.row(99)), 1)));
        return calls;
    }

    private static int thrown(Calls.Throwing throwing) {
        try {
            throwing.call();
        } catch (NoSuchElementException e) {
            return 1;
        }
        return 0;
    }

    /** Calls that read THE TEXT, with one that can't stand, and with one for which the rest can't be. */
    private static List<Call> refusedByTexts() {
        return List.of(
                new Call("sorts()", "a0+0;a0+x", TypeAtNight::sorts, -9),
                new Call("rule()", "m+w)", TypeAtNight::rule, -4),
                new Call("sets(0)", "ax", x -> x.sets(0), -2),
                new Call("sets(10)", "a", x -> x.sets(10), -100),
                new Call("sets(0)", "h", x -> x.sets(0), -101),
                new Call("week()", "N1N", TypeAtNight::week, -4),
                new Call("tells()", "ax", TypeAtNight::tells, -2),
                new Call("tells()", "h", TypeAtNight::tells, -101),
                new Call("often()", "ax", TypeAtNight::often, -2),
                new Call("bears(0)", "ax", x -> x.bears(0), -2),
                new Call("bears(109)", "a", x -> x.bears(109), -100),
                new Call("spans()", "ax", TypeAtNight::spans, -2),
                new Call("spans()", "h", TypeAtNight::spans, -101),
                new Call("packs()", "a;", TypeAtNight::packs, -3),
                new Call("parts()", "ab;aa", TypeAtNight::parts, -5),
                new Call("reads(5)", "ax", x -> x.reads(5), -2),
                new Call("reads(11)", "a", x -> x.reads(11), -100),
                new Call("reads(5)", "h", x -> x.reads(5), -101),
                new Call("law()", "m+", TypeAtNight::law, -10002));
    }

    /** A question, by its name, that reads this text first if there is one. */
    private record Question(String name, String text, ToIntFunction<TypeAtNight> asked) {
    }

    private static Question asking(String name, ToIntFunction<TypeAtNight> asked) {
        return new Question(name, "", asked);
    }

    private static List<Question> questionsAnswered() {
        return List.of(
                new Question("tells()", "a", TypeAtNight::tells),
                new Question("often()", "bb", TypeAtNight::often),
                asking("shortest()", TypeAtNight::shortest),
                new Question("bears(7)", "a", x -> x.bears(7)),
                new Question("spans()", "a", TypeAtNight::spans),
                new Question("packs()", "a;b;c", TypeAtNight::packs),
                asking("later(0, 99)", x -> x.later(0, 99)),
                asking("settles()", TypeAtNight::settles),
                asking("round()", TypeAtNight::round),
                asking("gravest(3)", x -> x.gravest(3)),
                asking("blows(2, 8)", x -> x.blows(2, 8)),
                new Question("parts()", "ab;cd", TypeAtNight::parts),
                asking("mixed()", TypeAtNight::mixed),
                asking("rubs()", TypeAtNight::rubs),
                asking("chord(0)", x -> x.chord(0)),
                asking("fits()", TypeAtNight::fits),
                asking("asks()", TypeAtNight::asks),
                asking("laws()", TypeAtNight::laws),
                asking("looks()", TypeAtNight::looks),
                new Question("reads(5)", "a", x -> x.reads(5)),
                asking("galley(60)", x -> x.galley(60)),
                asking("rests(4)", x -> x.rests(4)),
                new Question("law()", "9", TypeAtNight::law),
                asking("years(7, 60)", x -> x.years(7, 60)));
    }

    private static void row(Document doc) {
        doc.terms("ROW: numbers told last by a call that says so.");
        TypeAtNight x = Calls.with("a0+4;b0-2");
        Calls.due("numbers at first", x.count(9), 0);
        x.shortest();
        Calls.row("shortest", x, 0, 0);
        x.nights(0);
        Calls.row("nights, told last", x, 202);
        x.galley(3);
        Calls.row("galley, which tells none", x);
    }

    private static void rowsCompared(Document doc) {
        doc.terms("Rows of numbers are compared from the first on.");
        TypeAtNight x = Calls.with("a0+9;b0+9;b0+0;a0+0");
        Calls.due("rubs", x.rubs(), 9);
        Calls.row("rubs: 0 3 is less than 1 2", x, 0, 3);
        Calls.due("parts", Calls.put(x, "ac;cd;db").parts(), 2);
        Calls.row("parts: the least row of two BOXES", x, 0, 1, 1, 0, 0, 0, 0, 0);
        Calls.due("rests", x.rests(4), 2);
        Calls.row("rests: 0 1 is less than 1 0", x, 0, 1);
    }

    private static void fractions(Document doc) {
        doc.terms("Fractions are told in lowest terms, upper and lower number (0 by 1).");
        Supplier<TypeAtNight> two = () -> Calls.with("a0+0;b0+0");
        Calls.question("reads: nothing", two, "ab", x -> x.reads(10), 0, 0, 1);
        Calls.question("reads: all", two, "ab", x -> x.reads(0), 0, 1, 1);
        Calls.question("reads: 64 + 32 of 100", two, "ab", x -> x.reads(2), 0, 24, 25);
        Calls.question("reads: 99 of 100", two, "ab", x -> x.reads(1), 0, 99, 100);
    }

    private static void questions(Document doc) {
        doc.terms("Questions change nothing.");
        for (Question question : questionsAnswered()) {
            TypeAtNight x = RICH.get();
            String ahead = Calls.undoable(x) + seen(x);
            int answer = question.asked.applyAsInt(Calls.put(x, question.text));
            String row = Calls.rowOf(x);
            Calls.due("state behind " + question.name, Calls.undoable(x) + seen(x), ahead);
            Calls.due(question.name + " once more", question.asked.applyAsInt(Calls.put(x, question.text)), answer);
            Calls.due("ROW of " + question.name + " once more", Calls.rowOf(x), row);
            Calls.due("again(0) behind " + question.name, x.again(0), true);
            Calls.due("NIGHT kept behind " + question.name, x.count(1), 2);
        }
    }

    /** TURNS by THE RULE, what was heard and seen, what can be undone, and THE TEXT. */
    private static String seen(TypeAtNight x) {
        StringBuilder seen = new StringBuilder();
        for (int sort = 0; sort < x.count(0); sort++) {
            seen.append(x.sort(sort, 5)).append(' ');
        }
        for (int what : new int[] {6, 7, 8, 10}) {
            seen.append(x.count(what)).append(' ');
        }
        return seen.toString();
    }

    private static void nightsToCome(Document doc) {
        doc.terms("What is asked of NIGHTS to come is asked as if nothing else were done.");
        for (int n = 0; n <= 60; n += 20) {
            TypeAtNight x = RICH.get();
            int mood = x.later(1, n);
            long moods = x.row(1);
            int gravest = x.gravest(n);
            long then = x.row(0);
            x.nights(n);
            Calls.due("MOOD behind " + n, x.sort(1, 2), mood);
            Calls.due("MOODS of all behind " + n, x.count(4), moods);
            Calls.due("MOOD of the gravest behind " + n, x.sort(gravest, 2), then);
        }
    }

    private static void refused(Document doc) {
        doc.terms("Refused calls answer NONE, or false, and change nothing but THE TEXT");
        for (Call call : refusedByNumbers()) {
            Calls.refused(call.name, RICH, call.asked, call.want);
        }
        for (Call call : refusedByTexts()) {
            Calls.refused(call.name, RICH, call.text, call.asked, call.want);
        }
    }

    private static void textThatIsRead(Document doc) {
        doc.terms("which a call that reads it empties.");
        for (Call call : refusedByNumbers()) {
            TypeAtNight x = RICH.get();
            call.asked.applyAsInt(Calls.put(x, "ab"));
            Calls.due("signs behind " + call.name + ", which does not read them", x.count(10), 2);
            Calls.due("and they are the same", x.tells(), Calls.put(RICH.get(), "ab").tells());
        }
        for (Question question : questionsAnswered()) {
            TypeAtNight x = RICH.get();
            boolean reads = !question.text.isEmpty();
            question.asked.applyAsInt(Calls.put(x, reads ? question.text : "ab"));
            Calls.due("signs behind " + question.name, x.count(10), reads ? 0 : 2);
        }
        List<Call> done = List.of(
                new Call("sorts()", "h0+0;g0+0", TypeAtNight::sorts, 2),
                new Call("rule()", "m+1", TypeAtNight::rule, 0),
                new Call("sets(0)", "a", y -> y.sets(0), 2),
                new Call("week()", "N1N1", TypeAtNight::week, 2));
        for (Call call : done) {
            TypeAtNight x = RICH.get();
            Calls.due(call.name, call.asked.applyAsInt(Calls.put(x, call.text)), call.want);
            Calls.due("signs behind " + call.name, x.count(10), 0);
        }
        TypeAtNight x = RICH.get();
        Calls.put(x, "ab");
        x.nights(1);
        x.cleans(0);
        x.casts(0);
        x.moves(0, 7);
        x.undo();
        x.again(0);
        x.sheet(2, 1, 1, 1);
        x.forget();
        x.denies();
        Calls.due("signs behind what is done", x.count(10), 2);
    }

    private static void noneAhead(Document doc) {
        doc.terms("NONE comes ahead of other answers below 0, if not said otherwise");
        Calls.refused("moves of one that is STANDING to no BOX", RICH, x -> x.moves(0, 8), -1);
        Calls.refused("moves of one that is STANDING to BOX -1", RICH, x -> x.moves(0, -1), -1);
        Calls.refused("gravest(100) of none", TypeAtNight::new, x -> x.gravest(100), -1);
        Calls.refused("gravest(-1) of none", TypeAtNight::new, x -> x.gravest(-1), -1);
        Supplier<TypeAtNight> grave = () -> Calls.with("a0+9", "9");
        Calls.refused("blows(20, 0) by none", grave, x -> x.blows(20, 0), -2);
        Calls.refused("blows(21, 0) by none", grave, x -> x.blows(21, 0), -1);
        Calls.refused("blows(20, -1) by none", grave, x -> x.blows(20, -1), -1);
        Calls.refused("sheet of another kind, below 0", grave, x -> x.sheet(4, -1, 1, 1), -1);
        Calls.refused("sheet of another kind, below 0", grave, x -> x.sheet(-1, -1, 1, 1), -1);
        Calls.refused("sheet that is missing, of 13", grave, x -> x.sheet(3, 13, 1, 1), -1);
    }

    private static void textAhead(Document doc) {
        doc.terms("-1 - p of a text comes ahead of all");
        Calls.refused("sets(10), too few", RICH, "hx", x -> x.sets(10), -2);
        Calls.refused("sets(-10) of none", RICH, "", x -> x.sets(-10), -1);
        Calls.refused("bears(109)", RICH, "hhx", x -> x.bears(109), -3);
        Calls.refused("reads(11), too few", RICH, "hx", x -> x.reads(11), -2);
        Calls.refused("reads(-1) of none", RICH, "", x -> x.reads(-1), -1);
        Calls.refused("tells, too few", RICH, "hx", TypeAtNight::tells, -2);
        Calls.refused("spans, too few", RICH, "h".repeat(13), TypeAtNight::spans, -13);
    }

    private static void rowStays(Document doc) {
        doc.terms("the ROW stays with each answer that tells of a refusal or that there is none");
        List<Call> none = List.of(
                call("rubs()", TypeAtNight::rubs, -2),
                call("chord(1)", x -> x.chord(1), -2),
                call("asks()", TypeAtNight::asks, -2),
                call("looks()", TypeAtNight::looks, -2),
                call("settles()", TypeAtNight::settles, -2),
                call("blows(1, 0)", x -> x.blows(1, 0), -2),
                call("undo()", TypeAtNight::undo, -1),
                call("cleans(0)", x -> x.cleans(0), -2),
                call("casts(0)", x -> x.casts(0), -2));
        for (Call call : none) {
            Calls.refused(call.name, EdgesOfRefusals::restless, call.asked, call.want);
        }
        Calls.refused("gravest(0)", TypeAtNight::new, x -> x.gravest(0), -2);
    }

    /** MOODS that go on changing, none of which is known or seen to fit. */
    private static TypeAtNight restless() {
        TypeAtNight x = Calls.with("a0+0;b0+0", "3-n");
        x.heard(0, 7);
        x.saw(0, 0, 1);
        return x;
    }

    private static void rowStaysWithoutRefusal(Document doc) {
        doc.terms("and with calls that do not tell of it.");
        TypeAtNight x = RICH.get();
        Calls.put(x, "").law();
        String row = Calls.rowOf(x);
        List<ToIntFunction<TypeAtNight>> calls = List.of(
                y -> y.sign(0x61626364), y -> y.end(0) ? 1 : 0, y -> y.sort(0, 5), y -> y.box(0, 1),
                y -> y.sheet(2, 3, 1, 1), y -> y.sheet(3, 0, 0, 0), y -> y.moves(1, 6), y -> y.cleans(0),
                y -> y.casts(0), TypeAtNight::undo, y -> y.heard(0, 0), TypeAtNight::forget, y -> y.saw(0, 0, 0),
                TypeAtNight::denies, y -> y.keep(1) ? 1 : 0, y -> y.again(0) ? 1 : 0, y -> y.count(9),
                y -> (int) y.row(0), TypeAtNight::rule, TypeAtNight::sorts, y -> Calls.put(y, "h0+0").sorts());
        for (int j = 0; j < calls.size(); j++) {
            calls.get(j).applyAsInt(x);
            Calls.due("ROW behind call " + j, Calls.rowOf(x), row);
        }
    }
}
