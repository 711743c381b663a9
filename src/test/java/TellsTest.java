import java.util.function.Supplier;
import java.util.function.ToIntFunction;

/** Promises 16 to 21: what a text tells, how often it can be set, what is short, what it can bear, words. */
public final class TellsTest {
    private static final Supplier<TypeAtNight> FIVE = () -> Calls.with("a3+1;a1+2;a1-3;b0+9;b0-9");
    private static final Supplier<TypeAtNight> SIX = () -> Calls.with("a0+1;a0+2;a0+3;b0+1;b0-1;a0+4");
    private static final Supplier<TypeAtNight> FOUR = () -> Calls.with("a0+4;a2-2;b1+3;c9+0");
    private static final Supplier<TypeAtNight> TWELVE = () -> Calls.with("a0+1" + ";a0+1".repeat(11));

    public static void main(String[] args) {
        tells();
        often();
        shortest();
        bears();
        spans();
        packs();
        packsThatCantStand();
        Calls.close("TellsTest");
    }

    /** The object, with a text set in it. */
    private static Supplier<TypeAtNight> set(Supplier<TypeAtNight> made, String text, int feeling) {
        return () -> {
            TypeAtNight x = made.get();
            Calls.put(x, text).sets(feeling);
            return x;
        };
    }

    /** Texts that can't be set, for a call that reads one as sets() does. */
    private static void faultsAsSets(String call, ToIntFunction<TypeAtNight> asked) {
        Calls.refused(call, FIVE, "", asked, -1);
        Calls.refused(call, FIVE, "x", asked, -1);
        Calls.refused(call, FIVE, "ai", asked, -2);
        Calls.refused(call, FIVE, "abA", asked, -3);
        Calls.refused(call, FIVE, "a".repeat(13), asked, -13);
        Calls.refused(call, FIVE, "a".repeat(12) + ";", asked, -13);
        Calls.refused(call, FIVE, "a".repeat(80), asked, -13);
    }

    private static void tells() {
        Calls.promise("16 tells");
        ToIntFunction<TypeAtNight> tells = TypeAtNight::tells;
        Calls.question("tells", FIVE, "a", tells, 202, 2);
        Calls.question("tells", FIVE, "aa", tells, 199, 6);
        Calls.question("tells", FIVE, "aba", tells, 208, 14);
        Calls.question("tells", FIVE, "bb", tells, 200, 24);
        Calls.question("tells", FIVE, "aaabb", tells, 200, 31);
        Calls.question("tells", TWELVE, "a".repeat(12), tells, 212, 4095);
        Calls.question("tells behind sets", set(FIVE, "a", 5), "a", tells, 197, 4);
        Calls.refused("tells", FIVE, "aaaa", tells, -101);
        Calls.refused("tells", FIVE, "c", tells, -101);
        Calls.refused("tells behind sets", set(FIVE, "bb", 5), "b", tells, -101);
        Calls.refused("tells", FIVE, "a".repeat(12), tells, -101);
        faultsAsSets("tells", tells);
    }

    private static void often() {
        Calls.promise("17 often");
        ToIntFunction<TypeAtNight> often = TypeAtNight::often;
        Calls.question("often", FIVE, "a", often, 3, 1);
        Calls.question("often", FIVE, "b", often, 2, 2);
        Calls.question("often", FIVE, "ab", often, 2, 2);
        Calls.question("often", FIVE, "aba", often, 1, 1);
        Calls.question("often", FIVE, "aabb", often, 1, 3);
        Calls.question("often", FIVE, "c", often, 0, 4);
        Calls.question("often", FIVE, "ac", often, 0, 4);
        Calls.question("often", FIVE, "aaaach", often, 0, 133);
        Calls.question("often behind sets", set(FIVE, "ab", 1), "a", often, 2, 1);
        Calls.question("often behind sets", set(FIVE, "ab", 1), "ab", often, 1, 2);
        Calls.question("often", TWELVE, "a", often, 12, 1);
        Calls.question("often", TWELVE, "a".repeat(12), often, 1, 1);
        Calls.question("often", TypeAtNight::new, "a", often, 0, 1);
        faultsAsSets("often", often);
    }

    private static void shortest() {
        Calls.promise("18 shortest");
        Supplier<TypeAtNight> nine = () -> Calls.with("a0+0;b0+0;c0+0;d0+0;e0+0;f0+0;g0+0;h0+0;a0+0");
        ToIntFunction<TypeAtNight> shortest = TypeAtNight::shortest;
        Calls.question("shortest", nine, shortest, 1, 1, 1);
        Calls.question("shortest, one STANDING", set(nine, "h", 0), shortest, 7, 0, 1);
        Calls.question("shortest, two STANDING", set(nine, "haa", 0), shortest, 0, 0, 2);
        Calls.question("shortest of none", TypeAtNight::new, shortest, 0, 0, 0);
        Calls.question("shortest of FOUR", FOUR, shortest, 3, 0, 0);
    }

    private static void bears() {
        Calls.promise("19 bears");
        Calls.question("bears(5)", SIX, "aa", x -> x.bears(5), 2, 6);
        Calls.question("bears(3)", SIX, "ab", x -> x.bears(3), 2, 10);
        Calls.question("bears(3)", SIX, "ba", x -> x.bears(3), 2, 10);
        Calls.question("bears(10)", SIX, "aaaabb", x -> x.bears(10), 1, 63);
        Calls.question("bears(9)", SIX, "aaaabb", x -> x.bears(9), 0);
        Calls.question("bears(0), too few", SIX, "aaaaa", x -> x.bears(0), 0);
        Calls.question("bears(0), too few", SIX, "c", x -> x.bears(0), 0);
        Calls.question("bears(5) behind sets", set(SIX, "a", 0), "aa", x -> x.bears(5), 1, 6);
        Calls.question("bears(3) behind sets", set(SIX, "b", 0), "ab", x -> x.bears(3), 1, 48);
        Calls.question("bears(6)", TWELVE, "aaaaaa", x -> x.bears(6), 924, 63);
        Calls.question("bears(108)", () -> Calls.with("a0+9" + ";a0+9".repeat(11)), "a".repeat(12),
                x -> x.bears(108), 1, 4095);
        Calls.question("bears(-108)", () -> Calls.with("a0-9" + ";a0-9".repeat(11)), "a".repeat(12),
                x -> x.bears(-108), 1, 4095);
        TypeAtNight twice = SIX.get();
        Calls.put(twice, "aab").bears(0);
        Calls.due("bears(3) once more", Calls.put(twice, "a").bears(3), 1);
        Calls.row("bears(3) once more", twice, 4);
        Calls.question("bears(0) without SORTS", TypeAtNight::new, "a", x -> x.bears(0), 0);
        Calls.refused("bears(109)", SIX, "a", x -> x.bears(109), -100);
        Calls.refused("bears(-109)", SIX, "a", x -> x.bears(-109), -100);
        Calls.refused("bears(109), too few", SIX, "c", x -> x.bears(109), -100);
        Calls.refused("bears(109), wrong", SIX, "ax", x -> x.bears(109), -2);
        faultsAsSets("bears(0)", x -> x.bears(0));
    }

    private static void spans() {
        Calls.promise("20 spans");
        ToIntFunction<TypeAtNight> spans = TypeAtNight::spans;
        Calls.question("spans", SIX, "aa", spans, 203, 207, 3, 36);
        Calls.question("spans", SIX, "ab", spans, 200, 205, 17, 40);
        Calls.question("spans of all", SIX, "abaaab", spans, 210, 210, 63, 63);
        Calls.question("spans, like ones", TWELVE, "aa", spans, 202, 202, 3, 3);
        Supplier<TypeAtNight> pairs = () -> Calls.with("a0+2;a0+1;a0+1;a0+2");
        Calls.question("spans", pairs, "aa", spans, 202, 204, 6, 9);
        Calls.question("spans", pairs, "a", spans, 201, 202, 2, 1);
        Calls.question("spans behind sets", set(SIX, "ab", 0), "ab", spans, 201, 203, 18, 48);
        Calls.question("spans below 0", () -> Calls.with("a0-9;a0-8;h0-9"), "ah", spans, 182, 183, 5, 6);
        Calls.refused("spans", SIX, "aaaaa", spans, -101);
        Calls.refused("spans", SIX, "abc", spans, -101);
        Calls.refused("spans behind sets", set(SIX, "bb", 0), "ab", spans, -101);
        faultsAsSets("spans", spans);
    }

    private static void packs() {
        Calls.promise("21 packs");
        ToIntFunction<TypeAtNight> packs = TypeAtNight::packs;
        Calls.question("packs", FOUR, "ab;a;cc;d", packs, 2, 3);
        Calls.question("packs", FOUR, "aab;a;a", packs, 2, 6);
        Calls.question("packs", FOUR, "a;a;a;b", packs, 3, 11);
        Calls.question("packs", FOUR, "cc;d", packs, 0, 0);
        Calls.question("packs", FOUR, "h;h;h;h;h;h;h;c", packs, 1, 128);
        Calls.question("packs", FOUR, "abc", packs, 1, 1);
        Calls.question("packs behind sets", set(FOUR, "ac", 0), "a;a;c;b", packs, 2, 9);
        Calls.question("packs of a word too long", FOUR, "a".repeat(13) + ";b", packs, 1, 2);
        Calls.question("packs of 60 signs", TWELVE, "a".repeat(60), packs, 0, 0);
        Calls.question("packs of eight", TWELVE, "a;aa;aaa;aaa;aa;aaaa;a;a", packs, 6, 95);
        TypeAtNight twice = FOUR.get();
        Calls.put(twice, "aa;b;c").packs();
        Calls.due("packs once more", Calls.put(twice, "a;a;b").packs(), 3);
        Calls.row("packs once more", twice, 7);
        Calls.put(twice, "aax").packs();
        Calls.due("packs behind a refused one", Calls.put(twice, "b;d").packs(), 1);
        Calls.question("packs without SORTS", TypeAtNight::new, "a;b", packs, 0, 0);
    }

    private static void packsThatCantStand() {
        Calls.promise("21 packs");
        ToIntFunction<TypeAtNight> packs = TypeAtNight::packs;
        String[] texts = {"", ";", ";a", "a;", "a;;", "a;;b", "x", "a1", "ai", "a;b;x", "a;a;a;a;a;a;a;a;",
            "a;a;a;a;a;a;a;a;a", "a;a;a;a;a;a;a;a;x", "a".repeat(61), "a".repeat(60) + "x", "a".repeat(60) + ";",
            "a".repeat(59) + ";", "a".repeat(59) + ";a", "a".repeat(59) + "xa", "a".repeat(80),
            "a;a;a;a;a;a;a;a;a" + "a".repeat(50), "a;a;a;a;a;a;a;" + "a".repeat(45) + ";a"};
        long[] faults = {0, 0, 0, 2, 2, 2, 0, 1, 1, 4, 16,
            16, 16, 60, 60, 60,
            60, 60, 59, 60,
            16, 60};
        for (int j = 0; j < texts.length; j++) {
            Calls.refused("packs", FOUR, texts[j], packs, -1 - faults[j]);
        }
    }
}
