import java.util.function.Supplier;
import java.util.function.ToIntFunction;

/** Promises 22 to 26: moods later. */
public final class LaterTest {
    private static final Supplier<TypeAtNight> FOUR = () -> Calls.with("a0+4;a2-2;b1+3;c9+0");
    private static final Supplier<TypeAtNight> UP = () -> Calls.with("a0-5;b0+8", "1");
    /** The first counts 0 .. 9 over and over, the second its rounds; it ends with 0 and 9. */
    private static final String CLOCK = "(i=0)*(b<9)*(1-(m=9)*10)+(i=1)*(b=9)";

    public static void main(String[] args) {
        later();
        settles();
        round();
        gravest();
        blows();
        blowsRefused();
        Calls.close("LaterTest");
    }

    private static Supplier<TypeAtNight> clock(String sorts) {
        return () -> Calls.with(sorts, CLOCK);
    }

    private static Supplier<TypeAtNight> standing(String sorts, String rule, String text) {
        return () -> {
            TypeAtNight x = Calls.with(sorts, rule);
            Calls.put(x, text).sets(0);
            return x;
        };
    }

    private static void later() {
        Calls.promise("22 later");
        Calls.question("later(0, 0)", UP, x -> x.later(0, 0), 5, 0, 203);
        Calls.question("later(0, 3)", UP, x -> x.later(0, 3), 8, 0, 207);
        Calls.question("later(1, 3)", UP, x -> x.later(1, 3), 19, 1, 207);
        Calls.question("later(0, 99)", UP, x -> x.later(0, 99), 19, 0, 218);
        Calls.question("later(0, 1)", FOUR, x -> x.later(0, 1), 11, 0, 204);
        Supplier<TypeAtNight> worn = standing("c9+3", "0", "c");
        Calls.question("later(0, 0) of one that is STANDING", worn, x -> x.later(0, 0), 13, 2, 203);
        Calls.question("later(0, 1) of one that is STANDING", worn, x -> x.later(0, 1), 13, 3, 203);
        Supplier<TypeAtNight> sixth = () -> {
            TypeAtNight x = Calls.with("a0+0", "n");
            x.nights(5);
            x.cleans(0);
            return x;
        };
        Calls.question("later(0, 1) by the NIGHT", sixth, x -> x.later(0, 1), 15, 0, 205);
        Calls.question("later(0, 3) by the NIGHT", () -> {
            TypeAtNight x = sixth.get();
            Calls.put(x, "n-5").rule();
            return x;
        }, x -> x.later(0, 3), 6, 0, 196);
        Calls.question("later(0, 99): still ones go on by the NIGHT", () -> Calls.with("a0-9", "(n=6)"),
                x -> x.later(0, 99), 15, 0, 205);
        int[] numbers = {-1, 4, Integer.MIN_VALUE, Integer.MAX_VALUE};
        for (int sort : numbers) {
            Calls.refused("later(" + sort + ", 1)", FOUR, x -> x.later(sort, 1), -1);
        }
        int[] nights = {-1, 100, Integer.MIN_VALUE, Integer.MAX_VALUE};
        for (int n : nights) {
            Calls.refused("later(0, " + n + ")", FOUR, x -> x.later(0, n), -1);
        }
    }

    private static void settles() {
        Calls.promise("23 settles");
        ToIntFunction<TypeAtNight> settles = TypeAtNight::settles;
        Calls.question("settles", UP, settles, 14, 218);
        Calls.question("settles", FOUR, settles, 2, 203);
        Calls.question("settles at once", () -> Calls.with("a0+5;b0-3", "0"), settles, 0, 202);
        Calls.question("settles without SORTS", TypeAtNight::new, settles, 0, 200);
        Calls.question("settles: two still NIGHTS are too few", () -> Calls.with("a0-9", "n/3*3=n"), settles, 42, 209);
        Calls.question("settles: three are enough", () -> Calls.with("a0-9", "n>2"), settles, 0, 191);
        Calls.question("settles: three that come later", () -> Calls.with("a0-9", "n<2"), settles, 2, 193);
        Calls.question("settles behind 96", clock("a0+4;a0-1"), settles, 96, 209);
        Calls.refused("settles behind 97", clock("a0+3;a0-1"), settles, -2);
        Calls.refused("settles never", () -> Calls.with("a0+5", "-m-m"), settles, -2);
    }

    private static void round() {
        Calls.promise("24 round");
        ToIntFunction<TypeAtNight> round = TypeAtNight::round;
        Calls.question("round without SORTS", TypeAtNight::new, round, 7, 0);
        Calls.question("round", FOUR, round, 9, 2);
        Calls.question("round", UP, round, 21, 14);
        Calls.question("round of still ones", () -> Calls.with("a0+5", "0"), round, 7, 0);
        Calls.question("round of still ones, one STANDING", standing("a0+5", "0", "a"), round, 8, 1);
        Calls.question("round of two NIGHTS", () -> Calls.with("a0+4", "-m-m"), round, 14, 0);
        Calls.question("round of one moved", () -> {
            TypeAtNight x = Calls.with("a0+5", "0");
            x.moves(0, 3);
            return x;
        }, round, 7, 0);
        Calls.question("round by the NIGHT", () -> Calls.with("a0+0", "3-n"), round, 7, 0);
        Calls.question("round of twelve, the first goes round", () -> Calls.with("a0+4" + ";b0+4".repeat(11), "(i=0)*(-m-m)"),
                round, 14, 0);
        Calls.question("round of twelve, the last goes round", () -> Calls.with("a0+4" + ";b0+4".repeat(11), "(i=11)*(-m-m)"),
                round, 14, 0);
        Calls.question("round behind 99", clock("a0+8;a0-1"), round, 99, 92);
        Calls.refused("round behind 100", clock("a0+7;a0-1"), round, -2);
    }

    private static void gravest() {
        Calls.promise("25 gravest");
        Supplier<TypeAtNight> two = () -> Calls.with("a0-5;b0+5", "1");
        Calls.question("gravest(0)", two, x -> x.gravest(0), 0, 5, 5);
        Calls.question("gravest(1)", two, x -> x.gravest(1), 1, 16, 15);
        Calls.question("gravest(99)", two, x -> x.gravest(99), 0, 19, 5);
        Calls.question("gravest(0)", () -> Calls.with("a0+1;b0-3;c0+2;d0+3"), x -> x.gravest(0), 1, 7, 7);
        Calls.question("gravest(1)", FOUR, x -> x.gravest(1), 2, 12, 13);
        Calls.question("gravest(0) of MOODS that are 0", () -> Calls.with("a0+0;b0+0"), x -> x.gravest(0), 0, 10, 10);
        Calls.refused("gravest(0) of none", TypeAtNight::new, x -> x.gravest(0), -2);
        Calls.refused("gravest(99) of none", TypeAtNight::new, x -> x.gravest(99), -2);
        int[] nights = {-1, 100, Integer.MIN_VALUE, Integer.MAX_VALUE};
        for (int n : nights) {
            Calls.refused("gravest(" + n + ")", FOUR, x -> x.gravest(n), -1);
            Calls.refused("gravest(" + n + ") of none", TypeAtNight::new, x -> x.gravest(n), -1);
        }
    }

    private static void blows() {
        Calls.promise("26 blows");
        Calls.question("blows(0, 3)", FOUR, x -> x.blows(0, 3), 1, 1);
        Calls.question("blows(1, 1)", FOUR, x -> x.blows(1, 1), 1, 4);
        Calls.question("blows(0, 0)", FOUR, x -> x.blows(0, 0), 3, 7);
        Calls.question("blows(0, 9)", FOUR, x -> x.blows(0, 9), 0, 0);
        Calls.question("blows(0, 0) of none", TypeAtNight::new, x -> x.blows(0, 0), 0, 0);
        Supplier<TypeAtNight> sums = () -> Calls.with("a0+9;a0-9;b0+5;b0+5", "b");
        Calls.question("blows(1, 5)", sums, x -> x.blows(1, 5), 1, 4);
        Calls.question("blows(1, 4)", sums, x -> x.blows(1, 4), 2, 12);
        Calls.question("blows(1, 9)", sums, x -> x.blows(1, 9), 0, 0);
        Calls.question("blows, of as few the least", () -> Calls.with("a0+6;a0+6;a0+6", "b"), x -> x.blows(1, 6), 2, 3);
        Calls.question("blows of those that are STANDING", () -> {
            TypeAtNight x = Calls.with("a0+4;b0+2");
            Calls.put(x, "a").sets(9);
            return x;
        }, x -> x.blows(0, 5), 1, 1);
        Calls.question("blows(1, 3) of one that goes home", () -> {
            TypeAtNight x = Calls.with("a0+4;b0-4", "b");
            x.moves(0, 1);
            Calls.put(x, "a").sets(0);
            return x;
        }, x -> x.blows(1, 3), 2, 3);
        Calls.question("blows(1, 3) of two in one BOX", () -> {
            TypeAtNight x = Calls.with("a0+4;b0-4", "b");
            x.moves(0, 1);
            return x;
        }, x -> x.blows(1, 3), 0, 0);
        Calls.question("blows(1, 0) of one that goes into another's BOX", standing("a9+9;b0+9", "b", "a"),
                x -> x.blows(1, 0), 2, 3);
        Supplier<TypeAtNight> twelve = () -> Calls.with("a1+5;a2-7;a3+8;a4-9;a5+1;a6+2;a7+9;a8-3;a9+4;a0-6;a1+7;a2-8");
        Calls.question("blows(20, 0) of twelve", twelve, x -> x.blows(20, 0), 12, 4095);
        Calls.question("blows(20, 3) of twelve", twelve, x -> x.blows(20, 3), 0, 0);
        Calls.question("blows(20, 4) by the NIGHT", () -> Calls.with("a0+9;b0-9", "n=3"), x -> x.blows(20, 6), 1, 1);
    }

    private static void blowsRefused() {
        Calls.promise("26 blows");
        Calls.refused("blows(1, 0) by none", () -> Calls.with("a0+0", "1"), x -> x.blows(1, 0), -2);
        Calls.refused("blows(20, 8) by none", () -> Calls.with("a0+3;b0-9", "1"), x -> x.blows(20, 8), -2);
        int[] nights = {-1, 21, Integer.MIN_VALUE, Integer.MAX_VALUE};
        for (int n : nights) {
            Calls.refused("blows(" + n + ", 0)", FOUR, x -> x.blows(n, 0), -1);
        }
        int[] values = {-1, 10, Integer.MIN_VALUE, Integer.MAX_VALUE};
        for (int v : values) {
            Calls.refused("blows(1, " + v + ")", FOUR, x -> x.blows(1, v), -1);
        }
    }
}
