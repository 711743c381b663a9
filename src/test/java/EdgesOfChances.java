import java.util.function.Supplier;
import java.util.function.ToIntFunction;

/** Edges that promises 39 to 43 name. */
final class EdgesOfChances {
    private static final Supplier<TypeAtNight> FOUR = () -> Calls.with("a0+4;a2-2;b1+3;c9+0");
    private static final Supplier<TypeAtNight> TWELVE = () -> Calls.with("a0+1" + ";a0+1".repeat(11));

    private EdgesOfChances() {
    }

    static void all(Document doc) {
        tenths(doc);
        oneBroken(doc);
        readsRefused(doc);
        galley(doc);
        galleyTies(doc);
        rests(doc);
        restsCut(doc);
        restsWithout(doc);
        lawOfNone(doc);
        lawOfFive(doc);
        lawThatCantStand(doc);
        years(doc);
        yearsOfSorts(doc);
        yearsRefused(doc);
        draws(doc);
    }

    private static void tenths(Document doc) {
        doc.promise(39, "Each SORT that THE TEXT would take breaks by p tenths (0 .. 10), each by itself");
        Calls.question("reads(0)", TWELVE, "a".repeat(12), x -> x.reads(0), 0, 1, 1);
        Calls.question("reads(10) of twelve", TWELVE, "a".repeat(12), x -> x.reads(10), 0, 0, 1);
        Calls.question("reads(1) of twelve", TWELVE, "a".repeat(12), x -> x.reads(1), 0, 659002251789L, 1000000000000L);
        Calls.question("reads(9) of twelve", TWELVE, "a".repeat(12), x -> x.reads(9), 0, 109, 1000000000000L);
    }

    private static void oneBroken(Document doc) {
        doc.promise(39, "how likely it can be read (one is broken at most): 0; the ROW: the fraction.");
        for (int p = 0; p <= 10; p++) {
            int of = p;
            Calls.question("reads(" + p + ") of one", FOUR, "a", x -> x.reads(of), 0, 1, 1);
        }
        Calls.question("reads(5) of two", FOUR, "ab", x -> x.reads(5), 0, 3, 4);
        Calls.question("reads(10) of two", FOUR, "ab", x -> x.reads(10), 0, 0, 1);
        Calls.question("reads(9) of two", FOUR, "ab", x -> x.reads(9), 0, 19, 100);
    }

    private static void readsRefused(Document doc) {
        doc.promise(39, "-1 - p: as sets(); -100: another p; -101: there are not SORTS enough.");
        Calls.faults("reads(5)", FOUR, x -> x.reads(5), -1, "", 0, "x", 0, "ai", 1, "a".repeat(13), 12,
                "a".repeat(12) + "x", 12);
        Calls.faults("reads(11)", FOUR, x -> x.reads(11), -1, "", 0, "hx", 1, "h".repeat(13), 12);
        Calls.others("reads", FOUR, "a", (x, p) -> x.reads(p), 0, 10, -100);
        Calls.others("reads, too few", FOUR, "h", (x, p) -> x.reads(p), 0, 10, -100);
        Calls.refused("reads, one too few", FOUR, "aaab", x -> x.reads(0), -101);
        Calls.refused("reads without SORTS", TypeAtNight::new, "a", x -> x.reads(0), -101);
        Calls.refused("reads, one is STANDING", () -> Calls.set(FOUR.get(), "c", 0), "abc", x -> x.reads(10), -101);
    }

    private static void galley(Document doc) {
        doc.promise(40, "a galley of n (0 .. 60) letters in a row two that are beside each other (others stay where "
                + "they are), or the only one of a row of one; who takes the last has won");
        Calls.question("galley(0)", FOUR, x -> x.galley(0), 0);
        Calls.question("galley(1): the only one", FOUR, x -> x.galley(1), 1, 0);
        Calls.question("galley(2)", FOUR, x -> x.galley(2), 1, 0);
        Calls.question("galley(3): one is left", FOUR, x -> x.galley(3), 0);
        Calls.question("galley(60)", FOUR, x -> x.galley(60), 1, 2);
        Calls.question("galley(59)", FOUR, x -> x.galley(59), 1, 0);
    }

    private static void galleyTies(Document doc) {
        doc.promise(40, "the ROW: how many letters are to the left of those that he takes (the least such; nothing "
                + "without). NONE: another n.");
        // Worths of rows by hand: 0 1 1 0 2 1 3 0; so these are all that are lost.
        String lost = " 0 3 7 23 27 37 41 57 ";
        TypeAtNight x = new TypeAtNight();
        for (int n = 60; n >= 0; n--) {
            boolean isLost = lost.contains(" " + n + " ");
            Calls.due("galley(" + n + ")", x.galley(n), isLost ? 0 : 1);
            Calls.due("numbers of the ROW of galley(" + n + ")", x.count(9), isLost ? 0 : 1);
        }
        Calls.question("galley(4): the middle", FOUR, y -> y.galley(4), 1, 1);
        Calls.question("galley(5): the least of two", FOUR, y -> y.galley(5), 1, 0);
        Calls.others("galley", FOUR, "", (y, n) -> y.galley(n), 0, 60, -1);
    }

    private static void rests(Document doc) {
        doc.promise(41, "Two papers tell x and y (0 .. 9) of a murder: who tells more sells v (0 .. 20)");
        Calls.question("rests(0)", FOUR, x -> x.rests(0), 1, 0, 0);
        Calls.question("rests(20)", FOUR, x -> x.rests(20), 0);
        Calls.question("rests(4): who tells more is content", FOUR, x -> x.rests(4), 2, 0, 1);
    }

    private static void restsCut(Document doc) {
        doc.promise(41, "the other one half of v (cut), like ones 2 times v by 3 each (cut); each pays as much as it "
                + "tells, and both pay 1 more, if both together tell 10 or more.");
        // Thirds put up, not cut, would give 2 pairs for 1 and for 2; halves put up 3 for 3 and 2 for 5. That both pay
        // 1 more changes no pair at rest for any v, so no answer can show it.
        Calls.question("rests(1)", FOUR, x -> x.rests(1), 3, 0, 0);
        Calls.question("rests(2)", FOUR, x -> x.rests(2), 3, 0, 0);
        Calls.question("rests(3)", FOUR, x -> x.rests(3), 4, 0, 0);
        Calls.question("rests(5)", FOUR, x -> x.rests(5), 0);
    }

    private static void restsWithout(Document doc) {
        doc.promise(41, "the ROW: the least (nothing without). NONE: another v.");
        for (int v = 5; v <= 20; v++) {
            int of = v;
            Calls.question("rests(" + v + ")", FOUR, x -> x.rests(of), 0);
        }
        Calls.others("rests", FOUR, "", (x, v) -> x.rests(v), 0, 20, -1);
    }

    private static void lawOfNone(Document doc) {
        doc.promise(42, "THE TEXT is another RULE (an empty one: none)");
        ToIntFunction<TypeAtNight> law = TypeAtNight::law;
        Calls.question("law of none", FOUR, "", law, 0, 3, 3, 11, 11, 11, 10);
        Calls.question("law of none, less that by 9", () -> Calls.with("a0+4;a2-2;b1+3;c9+0", "9"), "", law, -33, 3, 36,
                11, 11, 11, 10);
        Calls.question("law without SORTS", TypeAtNight::new, "9", law, 0, 0, 0);
        Calls.question("law of forty signs", FOUR, "-".repeat(39) + "0", law, 6, 9, 3, 14, 8, 13, 10);
    }

    private static void lawOfFive(Document doc) {
        doc.promise(42, "in 5 NIGHTS by it, less that by THE RULE (below 0, too); the ROW: both, by it first, then "
                + "10 and MOODS of SORTS then by it.");
        ToIntFunction<TypeAtNight> law = TypeAtNight::law;
        Calls.question("law, five NIGHTS", () -> Calls.with("a0+0", "0"), "n=4", law, 1, 1, 0, 11);
        Calls.question("law, not six", () -> Calls.with("a0+0", "0"), "n=5", law, 0, 0, 0, 10);
        Calls.question("law below 0", () -> Calls.with("a0+9;b0-9", "0"), "-m", law, -18, 0, 18, 10, 10);
        String low = "a0-9" + ";a0-9".repeat(11);
        Calls.question("law of twelve", () -> Calls.with(low, "-m"), "0", law, 108, 108, 0, 1, 1, 1, 1, 1, 1, 1, 1, 1,
                1, 1, 1);
        Calls.question("law, one STANDING goes to the next BOX", () -> Calls.set(Calls.with("h9+1;a0+1", "0"), "h", 0),
                "k", law, 10, 12, 2, 16, 16);
    }

    private static void lawThatCantStand(Document doc) {
        doc.promise(42, "-10000 - p: the sign at p can't stand there (as rule()).");
        String forty = "-m" + "+m".repeat(19);
        Calls.faults("law", FOUR, TypeAtNight::law, -10000, "x", 0, ")", 0, "m+", 2, "m<w<l", 3, "(((((m", 4, "1000", 3,
                "(m", 2, "m)", 1, forty + "m", 40, forty + "+(", 40, "-".repeat(40), 40, "-".repeat(40) + "(", 40,
                "-".repeat(80), 40);
        TypeAtNight x = Calls.with("a0+5", "3");
        Calls.put(x, "4(").law();
        Calls.due("THE RULE stays", x.sort(0, 5), 13);
        Calls.put(x, "4").law();
        Calls.due("THE RULE stays", x.sort(0, 5), 13);
    }

    private static void years(Document doc) {
        doc.promise(43, "n times (1 .. 60): a DRAW of 4 tells: 0, 1: A NIGHT; 2: a DRAW of SORTS one, a DRAW of 19 "
                + "less 9 its MOOD then; 3: a DRAW of SORTS one, a DRAW of 8 a BOX: moves(), if it can be");
        Supplier<TypeAtNight> three = () -> Calls.with("a0+4;b0-2;c0+1", "1");
        Calls.question("0: A NIGHT", three, x -> x.years(0, 1), 3, 206);
        Calls.question("1: A NIGHT", three, x -> x.years(4, 1), 3, 206);
        Calls.question("2: MOOD of 0 is -4", three, x -> x.years(1, 1), 3, 195);
        Calls.question("3: 0 into BOX 5", three, x -> x.years(3, 1), 2, 203);
        Calls.question("3: 0 where it is", three, x -> x.years(76, 1), 3, 203);
        Supplier<TypeAtNight> standing = () -> Calls.set(three.get(), "a", 0);
        Calls.question("3: one that is STANDING", standing, x -> x.years(3, 1), 3, 203);
        Calls.question("3: one that is STANDING, both DRAWS are made, then A NIGHT", standing, x -> x.years(3, 2), 3,
                206);
        Calls.question("sixty times", three, x -> x.years(7, 60), 1, 227);
    }

    private static void yearsOfSorts(Document doc) {
        doc.promise(43, "(2, 3: nothing, no DRAWS more, without SORTS): how many SORTS are in the BOX of their "
                + "LETTER then; the ROW: 200 and MOODS of all together then.");
        for (int seed = 0; seed <= 5; seed++) {
            int of = seed;
            Calls.question("years(" + seed + ", 60) without SORTS", TypeAtNight::new, x -> x.years(of, 60), 0, 200);
        }
        Calls.question("years of one", () -> Calls.with("c0+4"), x -> x.years(1, 1), 1, 196);
        TypeAtNight x = new TypeAtNight();
        x.years(1, 60);
        Calls.put(x, "a3+2").sorts();
        Calls.each("one that comes behind it", x, 1, 3);
        Calls.each("one that comes behind it", x, 2, 12);
    }

    private static void yearsRefused(Document doc) {
        doc.promise(43, "NONE: another n.");
        Calls.others("years", FOUR, "", (x, n) -> x.years(1, n), 1, 60, -1);
        Calls.refused("years(1, -1)", FOUR, x -> x.years(1, -1), -1);
        Calls.others("years without SORTS", TypeAtNight::new, "", (x, n) -> x.years(1, n), 1, 60, -1);
    }

    private static void draws(Document doc) {
        doc.promise(43, "A DRAW of n: R = R times 1103515245 + 12345 (as ints; R is seed at first), (R without sign, "
                + "by 65536) % n.");
        int[] seeds = {0, 1, -1, Integer.MAX_VALUE, Integer.MIN_VALUE, 3, 123456789, -987654321};
        for (int sorts : new int[] {1, 3, 12}) {
            TypeAtNight x = Calls.with(rising(sorts), "1");
            for (int seed : seeds) {
                for (int n : new int[] {1, 2, 3, 59, 60}) {
                    long[] want = drawn(seed, n, sorts);
                    String call = "years(" + seed + ", " + n + ") of " + sorts;
                    Calls.due(call, x.years(seed, n), want[0]);
                    Calls.row(call, x, want[1]);
                }
            }
        }
    }

    /** So many SORTS of LETTERS a, b, .., h, a, .., with MOODS 0, 1, .. */
    private static String rising(int sorts) {
        StringBuilder lines = new StringBuilder();
        for (int sort = 0; sort < sorts; sort++) {
            lines.append(sort == 0 ? "" : ";").append((char) ('a' + sort % 8)).append("0+").append(sort % 10);
        }
        return lines.toString();
    }

    /** The same of MOODS that go up by 1 each NIGHT, with R as a long without sign. */
    private static long[] drawn(int seed, int n, int sorts) {
        int[] moods = new int[sorts];
        int[] boxes = new int[sorts];
        for (int sort = 0; sort < sorts; sort++) {
            moods[sort] = sort % 10;
            boxes[sort] = sort % 8;
        }
        long r = seed & 0xffffffffL;
        for (int time = 0; time < n; time++) {
            r = next(r);
            int what = (int) (r / 65536 % 4);
            if (what < 2) {
                for (int sort = 0; sort < sorts; sort++) {
                    moods[sort] = Math.min(9, moods[sort] + 1);
                }
                continue;
            }
            r = next(r);
            int sort = (int) (r / 65536 % sorts);
            r = next(r);
            if (what == 2) {
                moods[sort] = (int) (r / 65536 % 19) - 9;
            } else {
                boxes[sort] = (int) (r / 65536 % 8);
            }
        }
        long[] told = {0, 200};
        for (int sort = 0; sort < sorts; sort++) {
            told[0] += boxes[sort] == sort % 8 ? 1 : 0;
            told[1] += moods[sort];
        }
        return told;
    }

    private static long next(long r) {
        return (r * 1103515245L + 12345) & 0xffffffffL;
    }
}
