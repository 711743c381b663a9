import java.util.function.Supplier;
import java.util.function.ToIntFunction;

/** Edges that promises 27 to 30 name. */
final class EdgesOfBoxes {
    private static final Supplier<TypeAtNight> FOUR = () -> Calls.with("a0+4;a2-2;b1+3;c9+0");
    private static final String SIX_APART = "ab;ac;ad;ae;af;bc;bd;be;bf;cd;ce;cf;de;df;ef";
    private static final String TWENTY = SIX_APART + ";ag;ah;bg;bh;gh";
    private static final ToIntFunction<TypeAtNight> PARTS = TypeAtNight::parts;

    private EdgesOfBoxes() {
    }

    static void all(Document doc) {
        pairs(doc);
        noPairs(doc);
        leastRow(doc);
        pairsThatCantStand(doc);
        mixed(doc);
        rubs(doc);
        chordOfRange(doc);
        chordTies(doc);
        chordOfNone(doc);
        chordRefused(doc);
    }

    private static void pairs(Document doc) {
        doc.promise(27, "THE TEXT tells pairs of letters a .. h (not alike), ; between (at most 20, 59 signs), that "
                + "are not to be in one BOX");
        Calls.due("signs of twenty", TWENTY.length(), 59);
        Calls.question("parts of twenty", FOUR, TWENTY, PARTS, 6, 0, 1, 2, 3, 4, 5, 2, 3);
        Calls.question("parts of twenty like ones", FOUR, "ab" + ";ba".repeat(19), PARTS, 2, 0, 1, 0, 0, 0, 0, 0, 0);
        Calls.question("parts of the first and the last", FOUR, "ha", PARTS, 2, 0, 0, 0, 0, 0, 0, 0, 1);
        Calls.refused("parts of a twenty-first", FOUR, TWENTY + ";cg", PARTS, -60);
    }

    private static void noPairs(Document doc) {
        doc.promise(27, "(an empty one: no pairs): the fewest BOXES, at least 1, that all eight LETTERS need: how "
                + "many");
        Calls.question("parts of none", FOUR, "", PARTS, 1, 0, 0, 0, 0, 0, 0, 0, 0);
        Calls.question("parts of none, without SORTS", TypeAtNight::new, "", PARTS, 1, 0, 0, 0, 0, 0, 0, 0, 0);
        TypeAtNight x = FOUR.get();
        Calls.put(x, TWENTY).parts();
        Calls.due("parts of none, behind twenty", x.parts(), 1);
    }

    private static void leastRow(Document doc) {
        doc.promise(27, "the ROW: by LETTERS which (0, 1, ..; the least row).");
        Calls.question("parts: not the first that does", FOUR, "ac;cd;db", PARTS, 2, 0, 1, 1, 0, 0, 0, 0, 0);
        Calls.question("parts: the last comes as low as it can", FOUR, "ab;ah;gh", PARTS, 2, 0, 1, 0, 0, 0, 0, 0, 1);
        Calls.question("parts: a round of five", FOUR, "ab;bc;cd;de;ea", PARTS, 3, 0, 1, 0, 1, 2, 0, 0, 0);
        Calls.question("parts: a round of all eight", FOUR, "ab;bc;cd;de;ef;fg;gh;ha", PARTS, 2, 0, 1, 0, 1, 0, 1, 0,
                1);
    }

    private static void pairsThatCantStand(Document doc) {
        doc.promise(27, "-1 - p: the sign at p can't stand there (its end, if it ends too early; the second letter, "
                + "if it is the first; 59, if it has more and the first 59 could go on or end).");
        Calls.faults("parts that ends too early", FOUR, PARTS, -1, "a", 1, "ab;", 3, "ab;c", 4,
                TWENTY.substring(0, 57), 57, TWENTY.substring(0, 58), 58);
        Calls.faults("parts", FOUR, PARTS, -1, "i", 0, "`", 0, ";", 0, "0", 0, "ai", 1, "a`", 1, "a;", 1, "aB", 1,
                "abc", 2, "ab,cd", 2, "ab;;", 3, "ab; cd", 3);
        Calls.faults("parts of like letters", FOUR, PARTS, -1, "aa", 1, "hh", 1, "ab;cc", 4, "ab;cc;x", 4,
                TWENTY.substring(0, 58) + "g", 58, TWENTY.substring(0, 58) + "g;", 58);
        Calls.faults("parts of more than 59", FOUR, PARTS, -1, TWENTY + ";", 59, TWENTY + "x", 59, TWENTY + "a", 59,
                TWENTY + ";aa", 59, TWENTY + ";".repeat(21), 59);
        Calls.faults("parts of more than 59, wrong ahead of it", FOUR, PARTS, -1, TWENTY.substring(0, 58) + "x;", 58,
                TWENTY.substring(0, 57) + "x;;", 57, "aa;" + TWENTY, 1);
    }

    private static void mixed(Document doc) {
        doc.promise(28, "How many SORTS are not in the BOX of their LETTER: how many; the ROW: BOXES (bits) in which "
                + "there are SORTS of more than one LETTER.");
        ToIntFunction<TypeAtNight> mixed = TypeAtNight::mixed;
        Calls.question("mixed without SORTS", TypeAtNight::new, mixed, 0, 0);
        Calls.question("mixed, none", FOUR, mixed, 0, 0);
        Calls.question("mixed, one LETTER elsewhere", Calls.moved(FOUR, 0, 7, 1, 7), mixed, 2, 0);
        Calls.question("mixed in the last BOX", Calls.moved(FOUR, 0, 7, 2, 7), mixed, 2, 128);
        Calls.question("mixed in the first BOX", Calls.moved(FOUR, 3, 0), mixed, 1, 1);
        Calls.question("mixed, all of twelve", () -> {
            TypeAtNight x = Calls.with("h0+0" + ";a0+0;b0+0".repeat(5) + ";g0+0");
            for (int sort = 0; sort < 12; sort++) {
                x.moves(sort, sort % 2 == 0 ? 4 : 5);
            }
            return x;
        }, mixed, 12, 48);
    }

    private static void rubs(Document doc) {
        doc.promise(29, "how far; the ROW: the two, the lesser first (of as far ones the least row). -2: no two are "
                + "in one BOX.");
        ToIntFunction<TypeAtNight> rubs = TypeAtNight::rubs;
        Calls.question("rubs, as far as can be", () -> Calls.with("a0-9;a0+9"), rubs, 18, 0, 1);
        Calls.question("rubs of like ones", () -> Calls.with("b0+2;a0+1;a0+1"), rubs, 0, 1, 2);
        Calls.question("rubs, the greater MOOD first or last", () -> Calls.with("a0+3;b0+1;b0-2;a0+0"), rubs, 3, 0, 3);
        Calls.question("rubs of twelve like ones", () -> Calls.with("a0+0" + ";a0+0".repeat(11)), rubs, 0, 0, 1);
        Calls.question("rubs of the last of twelve", () -> Calls.with("a0+0" + ";a0+0".repeat(9) + ";a0-5;a0+5"), rubs,
                10, 10, 11);
        Calls.refused("rubs without SORTS", TypeAtNight::new, rubs, -2);
        Calls.refused("rubs of one", () -> Calls.with("a0+9"), rubs, -2);
        Calls.refused("rubs of one in each BOX", () -> Calls.with("a0+9;b0-9;h0+0"), rubs, -2);
        Calls.refused("rubs of one LETTER in two BOXES", Calls.moved(() -> Calls.with("a0+9;a0-9"), 1, 7), rubs, -2);
    }

    private static void chordOfRange(Document doc) {
        doc.promise(30, "The most SORTS that are not STANDING, no two of one LETTER, whose MOODS together are just v "
                + "(-72 .. 72): how many");
        String high = "a0+9;b0+9;c0+9;d0+9;e0+9;f0+9;g0+9;h0+9";
        Calls.question("chord(72)", () -> Calls.with(high + ";a0+9"), x -> x.chord(72), 8, 255);
        Calls.question("chord(-72)", () -> Calls.with(high.replace('+', '-') + ";a0-9"), x -> x.chord(-72), 8, 255);
        Calls.question("chord(63)", () -> Calls.with(high), x -> x.chord(63), 7, 127);
        Calls.refused("chord(72), one is STANDING", () -> Calls.set(Calls.with(high), "h", 0), x -> x.chord(72), -2);
        Calls.question("chord(63), one is STANDING", () -> Calls.set(Calls.with(high), "a", 0), x -> x.chord(63), 7,
                254);
        Calls.question("chord(0) of twelve", () -> Calls.with("a0+0" + ";a0+0".repeat(11)), x -> x.chord(0), 1, 1);
    }

    private static void chordTies(Document doc) {
        doc.promise(30, "the ROW: they (bits: of as many the least).");
        Calls.question("chord(2)", () -> Calls.with("a0+1;b0+1;c0+1;a0+1"), x -> x.chord(2), 2, 3);
        Calls.question("chord(5), more, not the first", () -> Calls.with("a0+5;b0+2;c0+3"), x -> x.chord(5), 2, 6);
        Calls.question("chord(5), not two of one LETTER", () -> Calls.with("a0+5;b0+2;b0+3"), x -> x.chord(5), 1, 1);
    }

    private static void chordOfNone(Document doc) {
        doc.promise(30, "(No SORTS at all are one set, of 0.)");
        Calls.question("chord(0) without SORTS", TypeAtNight::new, x -> x.chord(0), 0, 0);
        Calls.question("chord(0), none of MOOD 0", () -> Calls.with("a0+1;b0+2"), x -> x.chord(0), 0, 0);
        Calls.question("chord(0), all are STANDING", () -> Calls.set(Calls.with("a0+0"), "a", 0), x -> x.chord(0), 0,
                0);
    }

    private static void chordRefused(Document doc) {
        doc.promise(30, "-100: another v; -2: there is no such set.");
        Calls.others("chord", FOUR, "", (x, v) -> x.chord(v), -72, 72, -100);
        Calls.others("chord without SORTS", TypeAtNight::new, "", (x, v) -> x.chord(v), -72, 72, -100);
        for (int v : new int[] {-72, -1, 1, 72}) {
            Calls.refused("chord(" + v + ") without SORTS", TypeAtNight::new, x -> x.chord(v), -2);
        }
        Calls.refused("chord(5)", FOUR, x -> x.chord(5), -2);
        Calls.refused("chord(1), that one is STANDING", () -> Calls.set(Calls.with("a0+1"), "a", 0), x -> x.chord(1),
                -2);
    }
}
