import java.util.function.Supplier;
import java.util.function.ToIntBiFunction;
import java.util.function.ToIntFunction;

/** Edges that promises 9 to 15 name. */
final class EdgesOfNights {
    private static final String FOUR_LINES = "a0+4;a2-2;b1+3;c9+0";
    private static final Supplier<TypeAtNight> FOUR = () -> Calls.with(FOUR_LINES);
    private static final Supplier<TypeAtNight> TWELVE = () -> Calls.with("a0+1" + ";a0+1".repeat(11));
    private static final ToIntFunction<TypeAtNight> WEEK = TypeAtNight::week;

    private EdgesOfNights() {
    }

    static void all(Document doc) {
        feelings(doc);
        textsThatCantStand(doc);
        setsRefused(doc);
        nights(doc);
        moves(doc);
        movesRefused(doc);
        cleans(doc);
        casts(doc);
        weekEmpty(doc);
        weekOfNights(doc);
        weekOfLetters(doc);
        weekOfMoves(doc);
        weekOfCleaning(doc);
        weekStuck(doc);
        weekThatCantStand(doc);
        undoOfTwelve(doc);
        undoOfWhatWasDone(doc);
        undoRefused(doc);
        undoForgotten(doc);
    }

    private static void feelings(Document doc) {
        doc.promise(9, "THE TEXT is SET with a FEELING v (-9 .. 9): SORTS that it took (bits); the ROW: 200 and "
                + "MOODS of these together, as they were ahead of it, then.");
        for (int v : new int[] {-9, -1, 0, 1, 9}) {
            TypeAtNight x = FOUR.get();
            Calls.due("sets(" + v + ")", Calls.put(x, "ca").sets(v), 9);
            Calls.row("sets(" + v + ")", x, 204, 200 + Math.min(9, 4 + v) + v);
        }
        TypeAtNight all = Calls.with("h0-9" + ";h0-9".repeat(11));
        Calls.due("sets of all", Calls.put(all, "h".repeat(12)).sets(-9), 4095);
        Calls.row("sets of all", all, 92, 92);
    }

    private static void textsThatCantStand(Document doc) {
        doc.promise(9, "-1 - p: the sign at p can't stand there (its end for none; a thirteenth: at it).");
        Calls.faults("sets", TWELVE, x -> x.sets(0), -1, "", 0, "i", 0, "`", 0, "A", 0, ";", 0, "\0", 0, "\u00e1", 0,
                "ai", 1, "a".repeat(11) + "i", 11, "a".repeat(12) + "a", 12, "a".repeat(12) + "i", 12,
                "a".repeat(80), 12);
        Calls.due("twelve", Calls.put(TWELVE.get(), "a".repeat(12)).sets(0), 4095);
    }

    private static void setsRefused(Document doc) {
        doc.promise(9, "-100: another v; -101: there are not SORTS enough (these in that order; nothing is SET "
                + "then).");
        Calls.others("sets", FOUR, "ab", (x, v) -> x.sets(v), -9, 9, -100);
        Calls.others("sets, too few", FOUR, "h", (x, v) -> x.sets(v), -9, 9, -100);
        Calls.refused("sets, one too few of the last letter", FOUR, "aabc" + "c", x -> x.sets(1), -101);
        Calls.refused("sets, none of the last letter", FOUR, "aabch", x -> x.sets(1), -101);
        Calls.refused("sets without SORTS", TypeAtNight::new, "a", x -> x.sets(0), -101);
        Calls.refused("sets, all are STANDING", () -> Calls.set(FOUR.get(), "aabc", 1), "b", x -> x.sets(0), -101);
        Calls.due("sets, just enough", Calls.put(FOUR.get(), "aabc").sets(1), 15);
    }

    private static void nights(Document doc) {
        doc.promise(10, "n NIGHTS (0 .. 60): how many SORTS are in the BOX of their LETTER then; the ROW: 200 and "
                + "MOODS of all together then. Refused: another n.");
        TypeAtNight x = Calls.set(FOUR.get(), "c", 0);
        x.moves(1, 7);
        Calls.due("nights(0)", x.nights(0), 3);
        Calls.row("nights(0)", x, 205);
        Calls.due("one is STANDING still", x.count(2), 8);
        Calls.due("NIGHT", x.count(1), 0);
        Calls.due("nights(1)", x.nights(1), 2);
        Calls.due("none is STANDING", x.count(2), 0);
        Calls.due("nights(60)", x.nights(60), 2);
        Calls.due("NIGHT", x.count(1), 61);
        Calls.due("nights(60) without SORTS", new TypeAtNight().nights(60), 0);
        Calls.others("nights", () -> Calls.set(FOUR.get(), "c", 0), "", (y, n) -> y.nights(n), 0, 60, -1);
    }

    private static void moves(Document doc) {
        doc.promise(11, "A SORT that is not STANDING is put into a BOX (0 .. 7): 10 and the one where it was.");
        TypeAtNight x = Calls.with("a0+0;h0+0");
        Calls.due("moves(0, 7)", x.moves(0, 7), 10);
        Calls.due("moves(0, 0)", x.moves(0, 0), 17);
        Calls.due("moves(1, 0)", x.moves(1, 0), 17);
        Calls.due("SORTS of BOX 0", x.box(0, 0), 3);
        Calls.due("moves(11, 7)", TWELVE.get().moves(11, 7), 10);
    }

    private static void movesRefused(Document doc) {
        doc.promise(11, "-2: it is STANDING; -3: it is there; NONE: others.");
        Supplier<TypeAtNight> standing = () -> Calls.set(FOUR.get(), "bc", 0);
        for (int sort = 2; sort <= 3; sort++) {
            int of = sort;
            for (int box = 0; box <= 7; box++) {
                int to = box;
                Calls.refused("moves(" + sort + ", " + box + "), STANDING", standing, x -> x.moves(of, to), -2);
            }
            Calls.others("moves of " + sort + ", STANDING", standing, "", (x, box) -> x.moves(of, box), 0, 7, -1);
        }
        Calls.refused("moves(0, 0), there", standing, x -> x.moves(0, 0), -3);
        Calls.due("moves(1, 5), not STANDING", standing.get().moves(1, 5), 10);
        Calls.others("moves of 1", standing, "", (x, box) -> x.moves(1, box), 0, 7, -1);
        Calls.others("moves to 0", standing, "", (x, sort) -> x.moves(sort, 0), 0, 3, -1);
        Calls.refused("moves without SORTS", TypeAtNight::new, x -> x.moves(0, 0), -1);
        Calls.refused("moves(11, 0) of the last, STANDING", () -> Calls.set(TWELVE.get(), "a".repeat(12), 0),
                x -> x.moves(11, 0), -2);
        Calls.others("moves of twelve", TWELVE, "", (x, sort) -> x.moves(sort, 1), 0, 11, -1);
    }

    private static void cleans(Document doc) {
        doc.promise(12, "-2: it is 0; NONE: none such.");
        putTo0("cleans", (x, sort) -> x.cleans(sort), 2, "a0+9;b1-9;c9+0", 19, 1);
    }

    private static void casts(Document doc) {
        doc.promise(13, "-2: it is 0; NONE: none such.");
        putTo0("casts", (x, sort) -> x.casts(sort), 1, "a9+0;b1-9;c0+9", 9, 1);
    }

    /** Three SORTS: of the first that thing is the greatest, of the second the least, of the third it is 0. */
    private static void putTo0(String call, ToIntBiFunction<TypeAtNight, Integer> asked, int what, String sorts,
            long greatest, long least) {
        Supplier<TypeAtNight> three = () -> Calls.with(sorts);
        TypeAtNight x = three.get();
        long nought = x.sort(2, what);
        Calls.due(call + " of the greatest", asked.applyAsInt(x, 0), greatest);
        Calls.due(call + " of the least", asked.applyAsInt(x, 1), least);
        Calls.due(call + " once more", asked.applyAsInt(x, 1), -2);
        Calls.due("what can be undone", x.count(8), 2);
        Calls.each(call, x, what, nought, nought, nought);
        Calls.refused(call + " of what is 0", three, y -> asked.applyAsInt(y, 2), -2);
        Calls.others(call, three, "", asked, 0, 2, -1);
        Supplier<TypeAtNight> twelve = () -> Calls.with("a3+3" + ";a3+3".repeat(11));
        Calls.others(call + " of twelve", twelve, "", asked, 0, 11, -1);
        TypeAtNight last = twelve.get();
        asked.applyAsInt(last, 11);
        Calls.due(call + " of the last of twelve", last.sort(11, what), nought);
        Calls.refused(call + " without SORTS", TypeAtNight::new, y -> asked.applyAsInt(y, 0), -1);
    }

    /** A week on a new object of these SORTS: how many ACTS were done, the ROW, and what can be undone then. */
    private static TypeAtNight week(Supplier<TypeAtNight> made, String text, long done, long stuck, long standing) {
        TypeAtNight x = made.get();
        int undoable = x.count(8);
        Calls.due("week of " + text, Calls.put(x, text).week(), done);
        Calls.row("week of " + text, x, stuck, standing);
        Calls.due("what can be undone behind " + text, x.count(8), undoable + (done > 0 ? 1 : 0));
        return x;
    }

    private static void weekEmpty(Document doc) {
        doc.promise(14, "THE TEXT tells A WEEK (an empty one: nothing)");
        week(FOUR, "", 0, 0, 0);
        week(() -> Calls.set(FOUR.get(), "ab", 0), "", 0, 0, 2);
        week(TypeAtNight::new, "", 0, 0, 0);
    }

    private static void weekOfNights(Document doc) {
        doc.promise(14, "ACTS one behind another, without signs between: N and a digit (nights())");
        Calls.due("NIGHT", week(FOUR, "N9", 1, 0, 0).count(1), 9);
        Calls.due("NIGHT", week(FOUR, "N0", 1, 0, 0).count(1), 0);
        Calls.due("NIGHT", week(FOUR, "N1N0N2", 3, 0, 0).count(1), 3);
        Calls.faults("week", FOUR, WEEK, -1, "N", 1, "Na", 1, "N-", 1, "N:", 1, "N/", 1, "N1 N1", 2, "N1;N1", 2,
                "N10", 2, "n1", 0, " N1", 0);
    }

    private static void weekOfLetters(Document doc) {
        doc.promise(14, "S, + or -, a digit and letters a .. h, at least one and at most 12, a thirteenth can't "
                + "stand there (sets() of these, with that FEELING)");
        Calls.each("MOOD", week(TWELVE, "S+9" + "a".repeat(12), 1, 0, 12), 2, 19, 19, 19, 19, 19, 19, 19, 19, 19, 19,
                19, 19);
        Calls.each("MOOD", week(TWELVE, "S-9a", 1, 0, 1), 2, 2, 11);
        Calls.each("WEAR", week(TWELVE, "S-0aS+0aN1", 3, 0, 0), 1, 1, 1, 0);
        Calls.faults("week", TWELVE, WEEK, -1, "S+1", 3, "S+1N1", 3, "S+1i", 3, "S+1`", 3, "S+1A", 3, "S+1a1", 4,
                "S+1ai", 4, "S+1" + "a".repeat(13), 15, "S+1" + "a".repeat(12) + "i", 15, "S+1" + "a".repeat(20), 15,
                "N1S-9" + "h".repeat(13) + "N1", 17, "S", 1, "S+", 2, "S1a", 1, "S*1a", 1, "S+aa", 2, "S++1a", 2,
                "S+12a", 3);
    }

    private static void weekOfMoves(Document doc) {
        doc.promise(14, "M, two digits and a digit 0 .. 7 (moves())");
        Calls.each("BOX", week(FOUR, "M007M017M000", 3, 0, 0), 3, 0, 7, 1, 2);
        Calls.due("BOX", week(TWELVE, "M117M110", 2, 0, 0).sort(11, 3), 0);
        Calls.faults("week", TWELVE, WEEK, -1, "M", 1, "M0", 2, "M00", 3, "M008", 3, "M009", 3, "M00/", 3, "M00a", 3,
                "M0a1", 2, "Ma01", 1, "M0011", 4, "M-11", 1);
    }

    private static void weekOfCleaning(Document doc) {
        doc.promise(14, "C and two digits (cleans()), F and two digits (casts())");
        Calls.due("MOOD", week(TWELVE, "C11", 1, 0, 0).sort(11, 2), 10);
        Calls.due("WEAR", week(FOUR, "F03F01", 2, 0, 0).sort(3, 1), 0);
        Calls.faults("week", TWELVE, WEEK, -1, "C", 1, "C0", 2, "C0a", 2, "Ca0", 1, "C000", 3, "F", 1, "F0", 2,
                "F0C", 2, "FN", 1, "F000", 3);
    }

    private static void weekStuck(Document doc) {
        doc.promise(14, "they are done one by one, till one can't be (it answers below 0): how many were done; the "
                + "ROW: 1 if one could not be, else 0; how many are STANDING then.");
        String[] cant = {"S+1d", "S+1aaa", "M000", "M040", "M990", "C03", "C04", "C99", "F00", "F04", "F99"};
        for (String act : cant) {
            week(FOUR, act, 0, 1, 0);
            Calls.due("no NIGHT behind it", week(FOUR, act + "N1", 0, 1, 0).count(1), 0);
            Calls.due("a NIGHT ahead of it", week(FOUR, "N1C00" + act + "N1", 2, 1, 0).count(1), 1);
        }
        week(FOUR, "S+1bM021N1", 1, 1, 1);
        week(FOUR, "S+1bS+1b", 1, 1, 1);
        week(FOUR, "S+1bN1S+1b", 3, 0, 1);
        week(TypeAtNight::new, "N9C00", 1, 1, 0);
    }

    private static void weekThatCantStand(Document doc) {
        doc.promise(14, "-1 - p: the sign at p can't stand there (its end, if it ends too early; 60, if it has more "
                + "and the first 60 could go on or end); nothing is done then.");
        String sixty = "N1".repeat(30);
        Calls.due("sixty signs", Calls.put(FOUR.get(), sixty).week(), 30);
        Calls.faults("week of more than 60 that could end", FOUR, WEEK, -1, sixty + "N", 60, sixty + "N1", 60,
                sixty + "x", 60, sixty + "N".repeat(20), 60, "N1".repeat(28) + "S+1ab", 60,
                "N1".repeat(28) + "S+1ax", 60);
        String early = "N1".repeat(29);
        Calls.faults("week of more than 60 that could go on", FOUR, WEEK, -1, early + "M015", 60, early + "M01x", 60,
                early + "M0x5", 60, early + "S+1a", 60, early + "S+xa", 60, early + "C00", 60, early + "C0x", 60);
        Calls.faults("week of sixty that ends too early", FOUR, WEEK, -1, early + "M0", 60, early + "S+", 60,
                early + "C0", 60);
        Calls.faults("week of more than 60, wrong ahead of it", FOUR, WEEK, -1, early + "Mx15", 59, early + "NNN", 59,
                early + "x1N", 58, "S+1" + "a".repeat(13) + sixty, 15, "x" + sixty, 0);
        Calls.faults("week, wrong behind what could be done", FOUR, WEEK, -1, "S+1aN9C00x", 9, "M005N", 5, "C00C", 4);
    }

    private static void undoOfTwelve(Document doc) {
        doc.promise(15, "(of 12 that are kept, the latest ones; such as were done; nights() of 1 and more, week() of "
                + "which one ACT was done, as one) is undone (all of SORTS but LETTERS, NIGHT are as ahead of it): "
                + "how many are left that can be.");
        for (int acts = 11; acts <= 14; acts++) {
            TypeAtNight x = Calls.with("a0+0", "0");
            for (int night = 1; night <= acts; night++) {
                x.nights(1);
                Calls.due("what can be undone behind " + night, x.count(8), Math.min(12, night));
            }
            int kept = Math.min(12, acts);
            for (int left = kept - 1; left >= 0; left--) {
                Calls.due("undo", x.undo(), left);
                Calls.due("NIGHT", x.count(1), acts - kept + left);
            }
            Calls.due("undo of none", x.undo(), -1);
            Calls.due("NIGHT", x.count(1), acts - kept);
        }
    }

    private static void undoOfWhatWasDone(Document doc) {
        doc.promise(15, "such as were done; nights() of 1 and more, week() of which one ACT was done, as one");
        TypeAtNight x = Calls.set(FOUR.get(), "a", 1);
        int kept = 1;
        String[] texts = {"", "x", "C03", "N"};
        for (String text : texts) {
            Calls.put(x, text).week();
            Calls.due("what can be undone behind a week of " + text, x.count(8), kept);
        }
        x.nights(0);
        x.nights(61);
        x.moves(0, 1);
        x.moves(1, 0);
        x.moves(4, 0);
        x.cleans(3);
        x.cleans(4);
        x.casts(4);
        Calls.put(x, "h").sets(0);
        Calls.put(x, "b").sets(10);
        Calls.due("what can be undone behind such as were not done", x.count(8), kept);
        String ahead = Calls.undoable(x);
        Calls.put(x, "S-3bC00F01N2M025S+1aaC04").week();
        Calls.due("what can be undone behind a week of six", x.count(8), kept + 1);
        Calls.due("undo", x.undo(), kept);
        Calls.due("all of it is undone", Calls.undoable(x), ahead);
        Calls.put(x, "N0").week();
        Calls.due("a week of which one ACT was done", x.count(8), kept + 1);
    }

    private static void undoRefused(Document doc) {
        doc.promise(15, "Refused: none.");
        Calls.refused("undo", FOUR, TypeAtNight::undo, -1);
        Calls.refused("undo without SORTS", TypeAtNight::new, TypeAtNight::undo, -1);
        Calls.refused("undo behind undo", () -> {
            TypeAtNight x = Calls.set(FOUR.get(), "ab", 3);
            x.undo();
            return x;
        }, TypeAtNight::undo, -1);
    }

    private static void undoForgotten(Document doc) {
        doc.promise(15, "(sorts() and again() forget them, if they are not refused; an empty sorts() does not.)");
        TypeAtNight x = FOUR.get();
        x.keep(0);
        x.cleans(0);
        x.cleans(1);
        Calls.put(x, "").sorts();
        Calls.due("behind an empty sorts()", x.count(8), 2);
        Calls.put(x, "a0+0;").sorts();
        Calls.due("behind a refused sorts()", x.count(8), 2);
        x.again(1);
        x.again(2);
        Calls.due("behind a refused again()", x.count(8), 2);
        x.again(0);
        Calls.due("behind again()", x.count(8), 0);
        Calls.due("undo", x.undo(), -1);
        x.cleans(2);
        Calls.put(x, "h0+0").sorts();
        Calls.due("behind sorts()", x.count(8), 0);
        Calls.due("undo", x.undo(), -1);
        x.cleans(0);
        x.again(0);
        Calls.due("behind again() with SORTS that came since", x.count(8), 1);
    }
}
