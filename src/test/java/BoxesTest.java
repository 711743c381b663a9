import java.util.function.Supplier;
import java.util.function.ToIntFunction;

/** Promises 27 to 30: boxes so that letters do not mix, what is mixed, what rubs, a chord. */
public final class BoxesTest {
    private static final Supplier<TypeAtNight> FOUR = () -> Calls.with("a0+4;a2-2;b1+3;c9+0");
    private static final String SIX_APART = "ab;ac;ad;ae;af;bc;bd;be;bf;cd;ce;cf;de;df;ef";
    private static final String TWENTY = SIX_APART + ";ag;ah;bg;bh;gh";

    public static void main(String[] args) {
        parts();
        partsThatCantStand();
        mixed();
        rubs();
        chord();
        Calls.close("BoxesTest");
    }

    private static void parts() {
        Calls.promise("27 parts");
        ToIntFunction<TypeAtNight> parts = TypeAtNight::parts;
        Calls.question("parts", FOUR, "", parts, 1, 0, 0, 0, 0, 0, 0, 0, 0);
        Calls.question("parts", FOUR, "ab", parts, 2, 0, 1, 0, 0, 0, 0, 0, 0);
        Calls.question("parts", FOUR, "ba", parts, 2, 0, 1, 0, 0, 0, 0, 0, 0);
        Calls.question("parts", FOUR, "ha", parts, 2, 0, 0, 0, 0, 0, 0, 0, 1);
        Calls.question("parts", FOUR, "ab;ab;ba", parts, 2, 0, 1, 0, 0, 0, 0, 0, 0);
        Calls.question("parts", FOUR, "ab;bc;ca", parts, 3, 0, 1, 2, 0, 0, 0, 0, 0);
        Calls.question("parts", FOUR, "ab;bc;cd;de;ea", parts, 3, 0, 1, 0, 1, 2, 0, 0, 0);
        Calls.question("parts: the fewest, not the first that does", FOUR, "ac;cd;db", parts, 2, 0, 1, 1, 0, 0, 0, 0, 0);
        Calls.question("parts", FOUR, SIX_APART, parts, 6, 0, 1, 2, 3, 4, 5, 0, 0);
        Calls.question("parts of twenty", FOUR, TWENTY, parts, 6, 0, 1, 2, 3, 4, 5, 2, 3);
        Calls.question("parts", FOUR, "ab;cd;ef;gh", parts, 2, 0, 1, 0, 1, 0, 1, 0, 1);
        TypeAtNight twice = FOUR.get();
        Calls.put(twice, SIX_APART).parts();
        Calls.due("parts once more", Calls.put(twice, "cd").parts(), 2);
        Calls.row("parts once more", twice, 0, 0, 0, 1, 0, 0, 0, 0);
        Calls.question("parts without SORTS", TypeAtNight::new, "gh", parts, 2, 0, 0, 0, 0, 0, 0, 0, 1);
    }

    private static void partsThatCantStand() {
        Calls.promise("27 parts");
        ToIntFunction<TypeAtNight> parts = TypeAtNight::parts;
        String[] texts = {"a", "aa", "hh", "i", "ai", ";", "ab;", "abc", "ab;c", "ab;cc", "ab;;", "ab,cd", "aB", "a;",
            TWENTY + ";", TWENTY + "x", TWENTY + ";ab", TWENTY.substring(0, 58), TWENTY.substring(0, 57),
            TWENTY.substring(0, 58) + "g;", TWENTY.substring(0, 58) + "x;", "ab;".repeat(26)};
        long[] faults = {1, 1, 1, 0, 1, 0, 3, 2, 4, 4, 3, 2, 1, 1,
            59, 59, 59, 58, 57,
            58, 58, 59};
        for (int j = 0; j < texts.length; j++) {
            Calls.refused("parts", FOUR, texts[j], parts, -1 - faults[j]);
        }
    }

    private static void mixed() {
        Calls.promise("28 mixed");
        ToIntFunction<TypeAtNight> mixed = TypeAtNight::mixed;
        Calls.question("mixed", FOUR, mixed, 0, 0);
        Calls.question("mixed without SORTS", TypeAtNight::new, mixed, 0, 0);
        Calls.question("mixed, b with a", Calls.moved(FOUR, 2, 0), mixed, 1, 1);
        Calls.question("mixed, changed", Calls.moved(FOUR, 2, 0, 0, 1), mixed, 2, 1);
        Calls.question("mixed, alone elsewhere", Calls.moved(FOUR, 0, 7), mixed, 1, 0);
        Calls.question("mixed, two of one LETTER elsewhere", Calls.moved(FOUR, 0, 7, 1, 7), mixed, 2, 0);
        Calls.question("mixed, three in BOX 7", Calls.moved(FOUR, 0, 7, 2, 7, 3, 7), mixed, 3, 128);
        Calls.question("mixed, one STANDING", () -> {
            TypeAtNight x = Calls.moved(FOUR, 2, 0).get();
            Calls.put(x, "b").sets(0);
            return x;
        }, mixed, 1, 1);
    }

    private static void rubs() {
        Calls.promise("29 rubs");
        ToIntFunction<TypeAtNight> rubs = TypeAtNight::rubs;
        Supplier<TypeAtNight> five = () -> Calls.with("a0+1;a0+9;b0-9;b0-1;a0+1");
        Calls.question("rubs", five, rubs, 8, 0, 1);
        Calls.question("rubs, moved", Calls.moved(five, 2, 0), rubs, 18, 1, 2);
        Calls.question("rubs, moved", Calls.moved(five, 1, 7), rubs, 8, 2, 3);
        Calls.question("rubs of like ones", () -> Calls.with("b0+2;a0+1;a0+1"), rubs, 0, 1, 2);
        Calls.question("rubs of one that is STANDING", () -> {
            TypeAtNight x = Calls.with("a0+1;a0-3");
            Calls.put(x, "a").sets(1);
            return x;
        }, rubs, 5, 0, 1);
        Calls.refused("rubs of none", TypeAtNight::new, rubs, -2);
        Calls.refused("rubs of one in each", () -> Calls.with("a0+1;b0+2;h0-9"), rubs, -2);
    }

    private static void chord() {
        Calls.promise("30 chord");
        Supplier<TypeAtNight> four = () -> Calls.with("a0+1;a0+2;b0+3;c0-3");
        Calls.question("chord(0)", four, x -> x.chord(0), 2, 12);
        Calls.question("chord(1)", four, x -> x.chord(1), 3, 13);
        Calls.question("chord(2)", four, x -> x.chord(2), 3, 14);
        Calls.question("chord(3)", four, x -> x.chord(3), 1, 4);
        Calls.question("chord(-3)", four, x -> x.chord(-3), 1, 8);
        Calls.refused("chord(6)", four, x -> x.chord(6), -2);
        Calls.refused("chord(72)", four, x -> x.chord(72), -2);
        Calls.refused("chord(-72)", four, x -> x.chord(-72), -2);
        Calls.question("chord, of as many the least", () -> Calls.with("a0+1;b0+1;c0+1"), x -> x.chord(2), 2, 3);
        Calls.question("chord without one that is STANDING", () -> {
            TypeAtNight x = four.get();
            Calls.put(x, "b").sets(0);
            return x;
        }, x -> x.chord(0), 0, 0);
        Calls.question("chord(0) without SORTS", TypeAtNight::new, x -> x.chord(0), 0, 0);
        Calls.refused("chord(1) without SORTS", TypeAtNight::new, x -> x.chord(1), -2);
        Calls.question("chord(72)", () -> Calls.with("a0+9;b0+9;c0+9;d0+9;e0+9;f0+9;g0+9;h0+9"), x -> x.chord(72), 8, 255);
        Calls.question("chord(-72)", () -> Calls.with("a0-9;b0-9;c0-9;d0-9;e0-9;f0-9;g0-9;h0-9"),
                x -> x.chord(-72), 8, 255);
        int[] others = {73, -73, Integer.MIN_VALUE, Integer.MAX_VALUE};
        for (int v : others) {
            Calls.refused("chord(" + v + ")", four, x -> x.chord(v), -100);
        }
    }
}
