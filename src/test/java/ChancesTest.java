import java.util.HashMap;
import java.util.Map;
import java.util.function.Supplier;
import java.util.function.ToIntFunction;

/** Promises 39 to 43: chances, a galley, news at rest, another rule, years. */
public final class ChancesTest {
    private static final Supplier<TypeAtNight> FOUR = () -> Calls.with("a0+4;a2-2;b1+3;c9+0");
    private static final Supplier<TypeAtNight> TWELVE = () -> Calls.with("a0+1" + ";a0+1".repeat(11));

    public static void main(String[] args) {
        reads();
        readsRefused();
        galley();
        galleyByPlay();
        rests();
        law();
        lawRefused();
        years();
        Calls.close("ChancesTest");
    }

    private static void reads() {
        Calls.promise("39 reads");
        Calls.question("reads(5)", FOUR, "ab", x -> x.reads(5), 0, 3, 4);
        Calls.question("reads(7) of one", FOUR, "a", x -> x.reads(7), 0, 1, 1);
        Calls.question("reads(10) of one", FOUR, "a", x -> x.reads(10), 0, 1, 1);
        Calls.question("reads(10)", FOUR, "ab", x -> x.reads(10), 0, 0, 1);
        Calls.question("reads(0)", FOUR, "abc", x -> x.reads(0), 0, 1, 1);
        Calls.question("reads(1)", FOUR, "ab", x -> x.reads(1), 0, 99, 100);
        Calls.question("reads(3)", FOUR, "abc", x -> x.reads(3), 0, 98, 125);
        Calls.question("reads(5) of twelve", TWELVE, "a".repeat(12), x -> x.reads(5), 0, 13, 4096);
        Calls.question("reads(9) of twelve", TWELVE, "a".repeat(12), x -> x.reads(9), 0, 109, 1000000000000L);
        Calls.question("reads(1) of twelve", TWELVE, "a".repeat(12), x -> x.reads(1), 0, 659002251789L, 1000000000000L);
    }

    private static void readsRefused() {
        Calls.promise("39 reads");
        Calls.refused("reads(5)", FOUR, "aaa", x -> x.reads(5), -101);
        Calls.refused("reads(5), one STANDING", () -> {
            TypeAtNight x = FOUR.get();
            Calls.put(x, "b").sets(0);
            return x;
        }, "ab", x -> x.reads(5), -101);
        int[] others = {-1, 11, Integer.MIN_VALUE, Integer.MAX_VALUE};
        for (int p : others) {
            Calls.refused("reads(" + p + ")", FOUR, "a", x -> x.reads(p), -100);
            Calls.refused("reads(" + p + "), too few", FOUR, "aaa", x -> x.reads(p), -100);
            Calls.refused("reads(" + p + "), wrong", FOUR, "ax", x -> x.reads(p), -2);
        }
        Calls.refused("reads(5)", FOUR, "", x -> x.reads(5), -1);
        Calls.refused("reads(5)", FOUR, "a".repeat(13), x -> x.reads(5), -13);
    }

    private static void galley() {
        Calls.promise("40 galley");
        Calls.question("galley(0)", FOUR, x -> x.galley(0), 0);
        Calls.question("galley(1)", FOUR, x -> x.galley(1), 1, 0);
        Calls.question("galley(2)", FOUR, x -> x.galley(2), 1, 0);
        Calls.question("galley(3)", FOUR, x -> x.galley(3), 0);
        Calls.question("galley(4)", FOUR, x -> x.galley(4), 1, 1);
        Calls.question("galley(5)", FOUR, x -> x.galley(5), 1, 0);
        // An even row is won by the middle two, whatever else wins it.
        for (int n = 2; n <= 60; n += 2) {
            Calls.due("galley(" + n + ")", new TypeAtNight().galley(n), 1);
        }
        int[] others = {-1, 61, Integer.MIN_VALUE, Integer.MAX_VALUE};
        for (int n : others) {
            Calls.refused("galley(" + n + ")", FOUR, x -> x.galley(n), -1);
        }
    }

    /** All plays of short galleys, one bit for each letter that is still there. */
    private static void galleyByPlay() {
        Calls.promise("40 galley");
        Map<Integer, Boolean> known = new HashMap<>();
        for (int n = 0; n <= 18; n++) {
            int full = (1 << n) - 1;
            int left = -1;
            for (int p = n - 1; p >= 0; p--) {
                int rest = taken(full, p);
                if (rest >= 0 && !wins(rest, known)) {
                    left = p;
                }
            }
            TypeAtNight x = new TypeAtNight();
            Calls.due("galley(" + n + ")", x.galley(n), left < 0 ? 0 : 1);
            Calls.due("numbers of the ROW", x.count(9), left < 0 ? 0 : 1);
            if (left >= 0) {
                Calls.due("row(0) of galley(" + n + ")", x.row(0), left);
            }
        }
    }

    /** What is left when the letter at p and the next are taken, or the only one of its row; -1 if it can't be. */
    private static int taken(int letters, int p) {
        if ((letters >> p & 3) == 3) {
            return letters & ~(3 << p);
        }
        boolean alone = (letters >> p & 3) == 1 && (p == 0 || (letters >> (p - 1) & 1) == 0);
        return alone ? letters & ~(1 << p) : -1;
    }

    private static boolean wins(int letters, Map<Integer, Boolean> known) {
        Boolean answer = known.get(letters);
        if (answer != null) {
            return answer;
        }
        boolean won = false;
        for (int p = 0; letters >> p != 0 && !won; p++) {
            int rest = taken(letters, p);
            won = rest >= 0 && !wins(rest, known);
        }
        known.put(letters, won);
        return won;
    }

    private static void rests() {
        Calls.promise("41 rests");
        Calls.question("rests(0)", FOUR, x -> x.rests(0), 1, 0, 0);
        Calls.question("rests(2)", FOUR, x -> x.rests(2), 3, 0, 0);
        Calls.question("rests(3)", FOUR, x -> x.rests(3), 4, 0, 0);
        Calls.question("rests(4)", FOUR, x -> x.rests(4), 2, 0, 1);
        // From 5 on who tells less would tell more, up to where it is best to tell 0 again.
        for (int v = 5; v <= 20; v++) {
            int of = v;
            Calls.question("rests(" + v + ")", FOUR, x -> x.rests(of), 0);
        }
        // 1 is sold by who tells more, 0 else: to tell 1 against 0 costs what it brings.
        Calls.question("rests(1)", FOUR, x -> x.rests(1), 3, 0, 0);
        int[] others = {-1, 21, Integer.MIN_VALUE, Integer.MAX_VALUE};
        for (int v : others) {
            Calls.refused("rests(" + v + ")", FOUR, x -> x.rests(v), -1);
        }
    }

    private static void law() {
        Calls.promise("42 law");
        ToIntFunction<TypeAtNight> law = TypeAtNight::law;
        Calls.question("law", FOUR, "0", law, 6, 9, 3, 14, 8, 13, 10);
        Calls.question("law of none", FOUR, "", law, 0, 3, 3, 11, 11, 11, 10);
        Calls.question("law of none", () -> Calls.with("a0+4;a2-2;b1+3;c9+0", "9"), "", law, -33, 3, 36, 11, 11, 11, 10);
        Calls.question("law", FOUR, "9", law, 33, 36, 3, 19, 19, 19, 19);
        Calls.question("law, five NIGHTS", FOUR, "1", law, 22, 25, 3, 19, 13, 18, 15);
        Calls.question("law below 0", () -> Calls.with("a0+1;b0-1", "m"), "-m", law, -18, 0, 18, 10, 10);
        Calls.question("law without SORTS", TypeAtNight::new, "1", law, 0, 0, 0);
        Calls.question("law of forty signs", FOUR, "-".repeat(39) + "0", law, 6, 9, 3, 14, 8, 13, 10);
        Calls.question("law, one STANDING", () -> {
            TypeAtNight x = Calls.with("a9+0;b0+1");
            Calls.put(x, "a").sets(5);
            return x;
        }, "b", law, 12, 18, 6, 19, 19);
        TypeAtNight twelve = TWELVE.get();
        Calls.put(twelve, "0").law();
        Calls.row("law of twelve", twelve, 12, 12, 11, 11, 11, 11, 11, 11, 11, 11, 11, 11, 11, 11);
    }

    private static void lawRefused() {
        Calls.promise("42 law");
        String[] texts = {"x", "m+", "m<w<l", "(((((m", "1000", "(m", "m+".repeat(20), "m+".repeat(21),
            "-".repeat(40) + "m", "-".repeat(79) + "m"};
        long[] faults = {0, 2, 3, 4, 3, 2, 40, 40, 40, 40};
        for (int j = 0; j < texts.length; j++) {
            Calls.refused("law", FOUR, texts[j], TypeAtNight::law, -10000 - faults[j]);
        }
    }

    private static void years() {
        Calls.promise("43 years");
        Supplier<TypeAtNight> three = () -> Calls.with("a0+4;b0-2;c0+1", "1");
        Calls.question("years: a NIGHT (0)", three, x -> x.years(0, 1), 3, 206);
        Calls.question("years: a NIGHT (1)", three, x -> x.years(4, 1), 3, 206);
        Calls.question("years: MOOD of 0 is -4", three, x -> x.years(1, 1), 3, 195);
        Calls.question("years: 0 into BOX 5", three, x -> x.years(3, 1), 2, 203);
        Calls.question("years: 2 into BOX 5", three, x -> x.years(10, 1), 2, 203);
        Calls.question("years: 0 where it is", three, x -> x.years(76, 1), 3, 203);
        Calls.question("years(1, 2)", three, x -> x.years(1, 2), 2, 195);
        Calls.question("years(1, 5)", three, x -> x.years(1, 5), 2, 215);
        Calls.question("years(7, 60)", three, x -> x.years(7, 60), 1, 227);
        Calls.question("years(-1, 60)", three, x -> x.years(-1, 60), 0, 195);
        Calls.question("years(most, 60)", three, x -> x.years(Integer.MAX_VALUE, 60), 1, 207);
        Calls.question("years(least, 7)", three, x -> x.years(Integer.MIN_VALUE, 7), 3, 197);
        Calls.question("years: one that is STANDING is not moved", () -> {
            TypeAtNight x = three.get();
            Calls.put(x, "a").sets(0);
            return x;
        }, x -> x.years(3, 1), 3, 203);
        Calls.question("years of one", () -> Calls.with("c0+4"), x -> x.years(1, 1), 1, 196);
        Calls.question("years of one", () -> Calls.with("c0+4"), x -> x.years(3, 1), 0, 204);
        Calls.question("years without SORTS", TypeAtNight::new, x -> x.years(1, 60), 0, 200);
        int[] others = {0, 61, -1, Integer.MIN_VALUE, Integer.MAX_VALUE};
        for (int n : others) {
            Calls.refused("years(1, " + n + ")", three, x -> x.years(1, n), -1);
        }
    }
}
