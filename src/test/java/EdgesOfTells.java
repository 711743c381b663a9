import java.util.function.Supplier;
import java.util.function.ToIntFunction;

/** Edges that promises 16 to 21 name. */
final class EdgesOfTells {
    private static final Supplier<TypeAtNight> FOUR = () -> Calls.with("a0+4;a2-2;b1+3;c9+0");
    private static final Supplier<TypeAtNight> TWELVE = () -> Calls.with("h0-9" + ";h0-9".repeat(11));
    private static final Supplier<TypeAtNight> HIGH = () -> Calls.with("h0+9" + ";h0+9".repeat(11));
    private static final Supplier<TypeAtNight> STANDING = () -> Calls.set(FOUR.get(), "ac", 0);

    private EdgesOfTells() {
    }

    static void all(Document doc) {
        tells(doc);
        often(doc);
        shortest(doc);
        bearsOfRange(doc);
        bearsWithout(doc);
        bearsRefused(doc);
        spans(doc);
        words(doc);
        wordsAtOnce(doc);
        wordsThatCantStand(doc);
    }

    /** Texts that can't stand, as sets() has them. */
    private static void asSets(String call, ToIntFunction<TypeAtNight> asked) {
        Calls.faults(call, FOUR, asked, -1, "", 0, "i", 0, "`", 0, ";", 0, "ai", 1, "a".repeat(11) + "x", 11,
                "h".repeat(13), 12, "h".repeat(12) + "x", 12, "a".repeat(80), 12);
    }

    private static void tells(Document doc) {
        doc.promise(16, "-1 - p: as sets(). -101: there are not SORTS enough.");
        ToIntFunction<TypeAtNight> tells = TypeAtNight::tells;
        asSets("tells", tells);
        Calls.refused("tells, none of the last letter", FOUR, "aabch", tells, -101);
        Calls.refused("tells, one too few", FOUR, "aaa", tells, -101);
        Calls.refused("tells, one is STANDING", STANDING, "aa", tells, -101);
        Calls.refused("tells without SORTS", TypeAtNight::new, "a", tells, -101);
        Calls.question("tells, just enough", FOUR, "aabc", tells, 205, 15);
        doc.promise(16, "200 and MOODS of the SORTS that it would take, as they are now; the ROW: these SORTS "
                + "(bits).");
        Calls.question("tells, the least", TWELVE, "h".repeat(12), tells, 92, 4095);
        Calls.question("tells, the greatest", HIGH, "h".repeat(12), tells, 308, 4095);
        Calls.question("tells, one is STANDING", STANDING, "a", tells, 198, 2);
    }

    private static void often(Document doc) {
        doc.promise(17, "How often THE TEXT can be SET one behind the other now, before a NIGHT: how often; the ROW: "
                + "LETTERS of it (bits) that are not there for one more time. -1 - p: as sets().");
        ToIntFunction<TypeAtNight> often = TypeAtNight::often;
        asSets("often", often);
        Calls.question("often, never", FOUR, "h", often, 0, 128);
        Calls.question("often, never, for one letter", FOUR, "ah", often, 0, 128);
        Calls.question("often, never, for two", FOUR, "aaah", often, 0, 129);
        Calls.question("often without SORTS", TypeAtNight::new, "abcdefgh", often, 0, 255);
        Calls.question("often, twelve times", TWELVE, "h", often, 12, 128);
        Calls.question("often, once", TWELVE, "h".repeat(12), often, 1, 128);
        Calls.question("often, once, some left", TWELVE, "h".repeat(7), often, 1, 128);
        Calls.question("often, just as many of both", FOUR, "bc", often, 1, 6);
        Calls.question("often, one is STANDING", STANDING, "ab", often, 1, 3);
    }

    private static void shortest(Document doc) {
        doc.promise(18, "The LETTER of which the fewest SORTS are not STANDING: of equal ones the first: it; the "
                + "ROW: how many, how many there are of it in all.");
        ToIntFunction<TypeAtNight> shortest = TypeAtNight::shortest;
        Supplier<TypeAtNight> eight = () -> Calls.with("a0+0;b0+0;c0+0;d0+0;e0+0;f0+0;g0+0;h0+0");
        Calls.question("shortest without SORTS", TypeAtNight::new, shortest, 0, 0, 0);
        Calls.question("shortest of one each", eight, shortest, 0, 1, 1);
        Calls.question("shortest, two STANDING", () -> Calls.set(eight.get(), "gh", 0), shortest, 6, 0, 1);
        Calls.question("shortest, the last STANDING", () -> Calls.set(eight.get(), "h", 0), shortest, 7, 0, 1);
        Calls.question("shortest, all STANDING", () -> Calls.set(eight.get(), "abcdefgh", 0), shortest, 0, 0, 1);
        Calls.question("shortest of the first not there", TWELVE, shortest, 0, 0, 0);
        Calls.question("shortest of the last not there", () -> Calls.with("a0+0;b0+0;c0+0;d0+0;e0+0;f0+0;g0+0"),
                shortest, 7, 0, 0);
    }

    private static void bearsOfRange(Document doc) {
        doc.promise(19, "so that their MOODS together are v (-108 .. 108): by how many");
        Calls.question("bears(-108)", TWELVE, "h".repeat(12), x -> x.bears(-108), 1, 4095);
        Calls.question("bears(108)", HIGH, "h".repeat(12), x -> x.bears(108), 1, 4095);
        Calls.question("bears(107)", HIGH, "h".repeat(12), x -> x.bears(107), 0);
        Calls.question("bears(54)", HIGH, "h".repeat(6), x -> x.bears(54), 924, 63);
        Calls.question("bears(9)", HIGH, "h", x -> x.bears(9), 12, 1);
    }

    private static void bearsWithout(Document doc) {
        doc.promise(19, "the ROW: the least (bits; nothing without).");
        Calls.question("bears(0), none", FOUR, "a", x -> x.bears(0), 0);
        Calls.question("bears(2), too few", FOUR, "aaa", x -> x.bears(2), 0);
        Calls.question("bears(0), too few of one letter", FOUR, "ch", x -> x.bears(0), 0);
        Calls.question("bears(0) without SORTS", TypeAtNight::new, "a", x -> x.bears(0), 0);
        Calls.question("bears(4), that one is STANDING", STANDING, "a", x -> x.bears(4), 0);
        Calls.question("bears(3), of two the least", () -> Calls.with("a0+0;a0+3;b0+0;b0+3"), "ab", x -> x.bears(3), 2,
                6);
    }

    private static void bearsRefused(Document doc) {
        doc.promise(19, "-1 - p: as sets(); -100: another v.");
        asSets("bears(0)", x -> x.bears(0));
        asSets("bears(109)", x -> x.bears(109));
        Calls.others("bears", FOUR, "a", (x, v) -> x.bears(v), -108, 108, -100);
        Calls.others("bears, too few", FOUR, "h", (x, v) -> x.bears(v), -108, 108, -100);
    }

    private static void spans(Document doc) {
        doc.promise(20, "200 and the least; the ROW: 200 and the greatest, then both sets (bits; of like ones the "
                + "least). -1 - p: as sets(). -101: there are not SORTS enough.");
        ToIntFunction<TypeAtNight> spans = TypeAtNight::spans;
        asSets("spans", spans);
        Calls.question("spans of all, the least", TWELVE, "h".repeat(12), spans, 92, 92, 4095, 4095);
        Calls.question("spans of all, the greatest", HIGH, "h".repeat(12), spans, 308, 308, 4095, 4095);
        Calls.question("spans of like ones", HIGH, "hhh", spans, 227, 227, 7, 7);
        Calls.question("spans of like ones, not the first", () -> Calls.with("a0+1;a0+0;a0+2;a0+0;a0+2"), "a", spans,
                200, 202, 2, 4);
        Calls.question("spans, one is STANDING", STANDING, "ab", spans, 201, 201, 6, 6);
        Calls.refused("spans, one too few", FOUR, "aaab", spans, -101);
        Calls.refused("spans, none of the last letter", FOUR, "abh", spans, -101);
        Calls.refused("spans, one is STANDING", STANDING, "aa", spans, -101);
        Calls.refused("spans without SORTS", TypeAtNight::new, "a", spans, -101);
    }

    private static void words(Document doc) {
        doc.promise(21, "THE TEXT tells words of letters a .. h (at least one each), ; between (at most 8, 60 signs)");
        ToIntFunction<TypeAtNight> packs = TypeAtNight::packs;
        Calls.question("packs of one letter", FOUR, "a", packs, 1, 1);
        Calls.question("packs of eight words", TWELVE, "h;h;h;h;h;h;h;h", packs, 8, 255);
        Calls.question("packs of sixty signs", TWELVE, "h;h;h;h;h;h;h;" + "a".repeat(46), packs, 7, 127);
        Calls.question("packs of sixty signs, one word", TWELVE, "h".repeat(60), packs, 0, 0);
        Calls.question("packs of twelve letters", TWELVE, "h".repeat(12) + ";h", packs, 1, 1);
        Calls.question("packs of thirteen letters", TWELVE, "h".repeat(13) + ";h", packs, 1, 2);
    }

    private static void wordsAtOnce(Document doc) {
        doc.promise(21, "the most words that can be SET at once now: how many; the ROW: they (bits; of as many the "
                + "least).");
        ToIntFunction<TypeAtNight> packs = TypeAtNight::packs;
        Calls.question("packs, none", FOUR, "d;aaa;bb;h", packs, 0, 0);
        Calls.question("packs without SORTS", TypeAtNight::new, "a;b", packs, 0, 0);
        Calls.question("packs, of as many the least", FOUR, "b;b;b", packs, 1, 1);
        Calls.question("packs, of two the least", FOUR, "a;a;a;b;b", packs, 3, 11);
        Calls.question("packs, more words, not the first", FOUR, "aabc;a;a;b;c", packs, 4, 30);
        Calls.question("packs, the last alone", FOUR, "d;d;d;d;d;d;d;c", packs, 1, 128);
        Calls.question("packs, one is STANDING", STANDING, "a;a;c;b", packs, 2, 9);
    }

    private static void wordsThatCantStand(Document doc) {
        doc.promise(21, "-1 - p: the sign at p can't stand there (its end, if it ends too early; the ninth word: at "
                + "its first sign; 60, if it has more and the first 60 could go on or end).");
        ToIntFunction<TypeAtNight> packs = TypeAtNight::packs;
        String eight = "a;a;a;a;a;a;a;a";
        Calls.faults("packs that ends too early", FOUR, packs, -1, "", 0, "a;", 2, "ab;a;", 5, eight + ";", 16,
                "a".repeat(59) + ";", 60);
        Calls.faults("packs", FOUR, packs, -1, ";", 0, ";a", 0, "a;;a", 2, "i", 0, "`", 0, "a,b", 1, "a b", 1, "a0", 1,
                "aA", 1);
        Calls.faults("packs of a ninth word", FOUR, packs, -1, eight + ";a", 16, eight + ";x", 16, eight + ";;", 16,
                eight + ";" + "a".repeat(60), 16, eight + "aa;aa", 18);
        String seven = "a;a;a;a;a;a;a;";
        Calls.faults("packs of more than 60", FOUR, packs, -1, "a".repeat(61), 60, "a".repeat(60) + ";", 60,
                "a".repeat(60) + "x", 60, "a".repeat(59) + ";a", 60, "a".repeat(59) + ";x", 60, "a".repeat(80), 60,
                seven + "a".repeat(46) + "a", 60, seven + "a".repeat(45) + ";a", 60);
        Calls.faults("packs of more than 60, wrong ahead of it", FOUR, packs, -1, "a".repeat(59) + "xa", 59,
                "a".repeat(58) + ";;a", 59, "x" + "a".repeat(60), 0);
    }
}
