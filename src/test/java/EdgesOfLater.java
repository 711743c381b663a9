import java.util.function.Supplier;
import java.util.function.ToIntFunction;

/** Edges that promises 22 to 26 name. */
final class EdgesOfLater {
    private static final Supplier<TypeAtNight> FOUR = () -> Calls.with("a0+4;a2-2;b1+3;c9+0");
    private static final Supplier<TypeAtNight> UP = () -> Calls.with("a0-5;b0+8", "1");
    private static final String TWELVE = "a0+1" + ";a0+1".repeat(11);
    /** The first counts 0 .. 9 over and over, the second its rounds; it ends with 0 and 9. */
    private static final String CLOCK = "(i=0)*(b<9)*(1-(m=9)*10)+(i=1)*(b=9)";

    private EdgesOfLater() {
    }

    static void all(Document doc) {
        later(doc);
        laterRefused(doc);
        settles(doc);
        settlesNever(doc);
        round(doc);
        roundNever(doc);
        gravest(doc);
        gravestRefused(doc);
        blowsByRange(doc);
        blowsTies(doc);
        blowsRefused(doc);
    }

    private static Supplier<TypeAtNight> with(String sorts, String rule) {
        return () -> Calls.with(sorts, rule);
    }

    private static void later(Document doc) {
        doc.promise(22, "10 and MOOD of a SORT in n NIGHTS (0 .. 99); the ROW: its BOX then, 200 and MOODS of all "
                + "together then.");
        Calls.question("later(0, 0)", UP, x -> x.later(0, 0), 5, 0, 203);
        Calls.question("later(1, 0)", UP, x -> x.later(1, 0), 18, 1, 203);
        Calls.question("later(0, 1)", UP, x -> x.later(0, 1), 6, 0, 205);
        Calls.question("later(0, 99)", with("a0-9", "(n=6)"), x -> x.later(0, 99), 15, 0, 205);
        Calls.question("later(0, 98)", with("a0-9", "(n=0)"), x -> x.later(0, 98), 15, 0, 205);
        Calls.question("later(0, 99), one NIGHT more", with("a0-9", "(n=0)"), x -> x.later(0, 99), 16, 0, 206);
        Calls.question("later(11, 1)", with("h0-9" + ";h0-9".repeat(11), "0"), x -> x.later(11, 1), 1, 7, 92);
        Supplier<TypeAtNight> worn = () -> Calls.set(Calls.with("h9+3", "0"), "h", 0);
        Calls.question("later(0, 0), STANDING", worn, x -> x.later(0, 0), 13, 7, 203);
        Calls.question("later(0, 1), STANDING, behind BOX 7", worn, x -> x.later(0, 1), 13, 0, 203);
    }

    private static void laterRefused(Document doc) {
        doc.promise(22, "NONE: others.");
        Calls.others("later in 1", FOUR, "", (x, sort) -> x.later(sort, 1), 0, 3, -1);
        Calls.others("later of 0", FOUR, "", (x, n) -> x.later(0, n), 0, 99, -1);
        Calls.others("later of twelve", with(TWELVE, "0"), "", (x, sort) -> x.later(sort, 1), 0, 11, -1);
        Calls.refused("later without SORTS", TypeAtNight::new, x -> x.later(0, 0), -1);
    }

    private static void settles(Document doc) {
        doc.promise(23, "Behind how many NIGHTS (0 .. 96) no MOOD changes in the next three, first: how many; the "
                + "ROW: 200 and MOODS of all together then.");
        ToIntFunction<TypeAtNight> settles = TypeAtNight::settles;
        Calls.question("settles without SORTS", TypeAtNight::new, settles, 0, 200);
        Calls.question("settles at once", with("a0+5;b0-9", "0"), settles, 0, 196);
        Calls.question("settles behind one", with("a0+8", "1"), settles, 1, 209);
        Calls.question("settles behind 96", with("a0+4;a0-1", CLOCK), settles, 96, 209);
        Calls.question("two still NIGHTS are too few", with("a0+0", "n=2"), settles, 3, 201);
        Calls.question("three are enough", with("a0+0", "n=3"), settles, 0, 200);
        Calls.question("one that is STANDING goes home ahead of the TURN", () -> {
            TypeAtNight x = Calls.with("a0+4;b0+4", "k");
            x.moves(0, 1);
            return Calls.set(x, "a", 0);
        }, settles, 0, 208);
    }

    private static void settlesNever(Document doc) {
        doc.promise(23, "-2: behind none of these.");
        Calls.refused("settles behind 97", with("a0+3;a0-1", CLOCK), TypeAtNight::settles, -2);
        Calls.refused("settles never", with("a0+5", "-m-m"), TypeAtNight::settles, -2);
        Calls.refused("settles never, the last of twelve", with(TWELVE, "(i=11)*(-m-m)"), TypeAtNight::settles, -2);
    }

    private static void round(Document doc) {
        doc.promise(24, "Behind how many NIGHTS (1 .. 99) all is as it was behind fewer (MOODS, BOXES, who is "
                + "STANDING, the rest of NIGHT by 7) first: how many; the ROW: behind how many it was so.");
        ToIntFunction<TypeAtNight> round = TypeAtNight::round;
        Calls.question("the rest of NIGHT by 7", TypeAtNight::new, round, 7, 0);
        Calls.question("MOODS of two NIGHTS", with("a0+4", "-m-m"), round, 14, 0);
        Calls.question("MOODS of three NIGHTS", with("a0-1", "(m<1)*3-2"), round, 21, 0);
        Calls.question("MOODS that are beside each other", with("a0-8;b0+9", "(i=0)*(1-2*(m=-8))"), round, 14, 0);
        Calls.question("who is STANDING", () -> Calls.set(Calls.with("a0+5", "0"), "a", 0), round, 8, 1);
        Calls.question("who is STANDING, the last of twelve", () -> Calls.set(Calls.with(TWELVE.substring(5) + ";h0+1",
                "0"), "h", 0), round, 8, 1);
        Calls.question("BOXES", () -> {
            TypeAtNight x = Calls.with("a0+5", "0");
            x.moves(0, 3);
            return Calls.set(x, "a", 0);
        }, round, 8, 1);
        Calls.question("BOXES that stay", () -> {
            TypeAtNight x = Calls.with("a0+5", "0");
            x.moves(0, 3);
            return x;
        }, round, 7, 0);
        Calls.question("round behind 99", with("a0+8;a0-1", CLOCK), round, 99, 92);
        Calls.question("MOODS of seven NIGHTS and of two", with("a0+0;b0+0", "(i=0)*(1-(m=6)*7)+(i=1)*(1-2*m)"), round,
                14, 0);
    }

    private static void roundNever(Document doc) {
        doc.promise(24, "-2: behind none of these.");
        Calls.refused("round behind 100", with("a0+7;a0-1", CLOCK), TypeAtNight::round, -2);
    }

    private static void gravest(Document doc) {
        doc.promise(25, "The SORT whose MOOD is the farthest from 0 in n NIGHTS (0 .. 99): of equal ones the first: "
                + "it; the ROW: 10 and MOOD then, 10 and MOOD now.");
        Supplier<TypeAtNight> two = with("a0-5;b0+5", "1");
        Calls.question("gravest(0), of equal ones the first", two, x -> x.gravest(0), 0, 5, 5);
        Calls.question("gravest(1)", two, x -> x.gravest(1), 1, 16, 15);
        Calls.question("gravest(99), of equal ones the first", two, x -> x.gravest(99), 0, 19, 5);
        Calls.question("gravest(99) by the last NIGHT", with("a0+0;b0-9", "(i=1)*(n=0)"), x -> x.gravest(99), 1, 16, 1);
        Calls.question("gravest(0) of the last of twelve", with(TWELVE.substring(5) + ";h0-9", "0"), x -> x.gravest(0),
                11, 1, 1);
        Calls.question("gravest(0) of twelve like ones", with(TWELVE, "0"), x -> x.gravest(0), 0, 11, 11);
        Calls.question("gravest(0) of none but 0", with("a0+0;b0-0", "0"), x -> x.gravest(0), 0, 10, 10);
    }

    private static void gravestRefused(Document doc) {
        doc.promise(25, "-2: there are none; NONE: another n.");
        Calls.refused("gravest(0)", TypeAtNight::new, x -> x.gravest(0), -2);
        Calls.refused("gravest(99)", TypeAtNight::new, x -> x.gravest(99), -2);
        Calls.others("gravest", FOUR, "", (x, n) -> x.gravest(n), 0, 99, -1);
        Calls.others("gravest of none", TypeAtNight::new, "", (x, n) -> x.gravest(n), 0, 99, -1);
    }

    private static void blowsByRange(Document doc) {
        doc.promise(26, "The fewest SORTS (STANDING or not) to be cleaned now (MOOD 0) so that in n NIGHTS (0 .. 20) "
                + "MOODS of all are v (0 .. 9) or less from 0: how many");
        Calls.question("blows(0, 0) without SORTS", TypeAtNight::new, x -> x.blows(0, 0), 0, 0);
        Calls.question("blows(20, 9) without SORTS", TypeAtNight::new, x -> x.blows(20, 9), 0, 0);
        Calls.question("blows(0, 0)", FOUR, x -> x.blows(0, 0), 3, 7);
        Calls.question("blows(0, 4)", FOUR, x -> x.blows(0, 4), 0, 0);
        Calls.question("blows(0, 3)", FOUR, x -> x.blows(0, 3), 1, 1);
        Calls.question("blows(0, 9)", with("a0+9;b0-9", "0"), x -> x.blows(0, 9), 0, 0);
        Calls.question("blows(0, 8)", with("a0+9;b0-9", "0"), x -> x.blows(0, 8), 2, 3);
        Calls.question("blows(20, 8) by the last NIGHT", with("a0+6;b0-8", "(n=6)"), x -> x.blows(20, 8), 0, 0);
        Calls.question("blows(20, 7) by the last NIGHT", with("a0+6;b0-9", "(n=5)"), x -> x.blows(20, 7), 1, 1);
        Calls.question("blows of those that are STANDING", () -> Calls.set(Calls.with("a0+4;b0+2", "0"), "a", 9),
                x -> x.blows(0, 5), 1, 1);
        Calls.question("blows of all twelve", with("h0-9" + ";h0-9".repeat(11), "0"), x -> x.blows(20, 0), 12, 4095);
    }

    private static void blowsTies(Document doc) {
        doc.promise(26, "the ROW: they (bits: of as few the least). -2: by none; NONE: others.");
        Calls.question("of as few the least", with("a0+6;a0+6;a0+6", "b"), x -> x.blows(1, 6), 2, 3);
        Calls.question("of as few the least in two BOXES", with("b0+5;a0+5;a0+5;b0+5", "b"), x -> x.blows(1, 5), 2, 3);
        Calls.question("few, not the first", with("a0+1;a0+1;a0+9", "b"), x -> x.blows(1, 2), 1, 4);
        Calls.refused("blows(1, 0) by none", with("a0+0", "1"), x -> x.blows(1, 0), -2);
        Calls.refused("blows(20, 8) by none", with("a0+3;b0-9", "1"), x -> x.blows(20, 8), -2);
        Calls.refused("blows(1, 0) by none in the last BOX", with("a0+0;h0+0", "l=7"), x -> x.blows(1, 0), -2);
    }

    private static void blowsRefused(Document doc) {
        doc.promise(26, "-2: by none; NONE: others.");
        Calls.others("blows to 0", FOUR, "", (x, n) -> x.blows(n, 0), 0, 20, -1);
        Calls.others("blows in 1", FOUR, "", (x, v) -> x.blows(1, v), 0, 9, -1);
        Calls.others("blows without SORTS", TypeAtNight::new, "", (x, n) -> x.blows(n, 9), 0, 20, -1);
    }
}
