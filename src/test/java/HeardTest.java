import java.util.function.Supplier;
import java.util.function.ToIntFunction;

/** Promises 31 to 38: which sort it was, and laws of mixing. */
public final class HeardTest {
    /** a 0+4; a 2-2 in BOX 5; b, STANDING, 2+3; c 9+0. */
    private static final Supplier<TypeAtNight> FOUR = () -> {
        TypeAtNight x = Calls.with("a0+4;a2-2;b1+3;c9+0");
        Calls.put(x, "b").sets(0);
        x.moves(1, 5);
        return x;
    };

    public static void main(String[] args) {
        heard();
        heardRefused();
        forget();
        fits();
        asks();
        saw();
        denies();
        laws();
        looks();
        Calls.close("HeardTest");
    }

    private static void heard() {
        Calls.promise("31 heard");
        TypeAtNight x = FOUR.get();
        Calls.mark(x);
        String row = Calls.rowOf(x);
        int[][] edges = {{0, 0}, {0, 7}, {1, 0}, {1, 9}, {2, 0}, {2, 1}, {3, 0}, {3, 7}, {4, 0}, {4, 9}, {4, 9}, {0, 0}};
        for (int j = 0; j < edges.length; j++) {
            Calls.due("heard(" + edges[j][0] + ", " + edges[j][1] + ")", x.heard(edges[j][0], edges[j][1]), j + 1);
            Calls.due("count(6)", x.count(6), j + 1);
        }
        Calls.due("heard, a thirteenth", x.heard(0, 0), -1);
        Calls.due("count(6)", x.count(6), 12);
        Calls.due("the ROW stays", Calls.rowOf(x), row);
    }

    private static void heardRefused() {
        Calls.promise("31 heard");
        int[][] others = {{0, 8}, {0, -1}, {1, 10}, {1, -1}, {2, 2}, {2, -1}, {3, 8}, {3, -1}, {4, 10}, {4, -1},
            {-1, 0}, {5, 0}, {Integer.MIN_VALUE, 0}, {Integer.MAX_VALUE, 0}, {0, Integer.MIN_VALUE},
            {4, Integer.MAX_VALUE}};
        for (int[] other : others) {
            Calls.refused("heard(" + other[0] + ", " + other[1] + ")", FOUR, x -> x.heard(other[0], other[1]), -1);
        }
    }

    private static void forget() {
        Calls.promise("32 forget");
        TypeAtNight x = Calls.hearing(FOUR, 0, 0, 1, 1, 2, 0).get();
        Calls.mark(x);
        String row = Calls.rowOf(x);
        Calls.due("forget", x.forget(), 3);
        Calls.due("count(6)", x.count(6), 0);
        Calls.due("the ROW stays", Calls.rowOf(x), row);
        Calls.due("all fit", x.fits(), 15);
        Calls.due("forget of none", x.forget(), 0);
        Calls.due("heard anew", x.heard(0, 1), 1);
        Calls.due("fits", x.fits(), 4);
    }

    private static void fits() {
        Calls.promise("33 fits");
        ToIntFunction<TypeAtNight> fits = TypeAtNight::fits;
        Calls.question("fits", FOUR, fits, 15, 4);
        Calls.question("fits LETTER 0", Calls.hearing(FOUR, 0, 0), fits, 3, 2);
        Calls.question("fits LETTER 3", Calls.hearing(FOUR, 0, 3), fits, 0, 0);
        Calls.question("fits WEAR 2", Calls.hearing(FOUR, 1, 2), fits, 14, 3);
        Calls.question("fits WEAR 9", Calls.hearing(FOUR, 1, 9), fits, 8, 1);
        Calls.question("fits WEAR 0", Calls.hearing(FOUR, 1, 0), fits, 15, 4);
        Calls.question("fits STANDING", Calls.hearing(FOUR, 2, 1), fits, 4, 1);
        Calls.question("fits not STANDING", Calls.hearing(FOUR, 2, 0), fits, 11, 3);
        Calls.question("fits BOX 5", Calls.hearing(FOUR, 3, 5), fits, 2, 1);
        Calls.question("fits BOX 0", Calls.hearing(FOUR, 3, 0), fits, 1, 1);
        Calls.question("fits MOOD 0", Calls.hearing(FOUR, 4, 0), fits, 13, 3);
        Calls.question("fits MOOD 3", Calls.hearing(FOUR, 4, 3), fits, 5, 2);
        Calls.question("fits MOOD 5", Calls.hearing(FOUR, 4, 5), fits, 0, 0);
        Calls.question("fits both", Calls.hearing(FOUR, 0, 0, 4, 0), fits, 1, 1);
        Calls.question("fits neither", Calls.hearing(FOUR, 2, 0, 2, 1), fits, 0, 0);
        Calls.question("fits without SORTS", Calls.hearing(TypeAtNight::new, 1, 0), fits, 0, 0);
        TypeAtNight x = Calls.hearing(FOUR, 2, 1).get();
        x.nights(1);
        Calls.due("what fits now", x.fits(), 0);
    }

    private static void asks() {
        Calls.promise("34 asks");
        ToIntFunction<TypeAtNight> asks = TypeAtNight::asks;
        Calls.question("asks", FOUR, asks, 0, 2);
        Calls.question("asks of MOOD", () -> Calls.with("a0+1;a0+2;a0+3;a0+4"), asks, 43, 2);
        Calls.question("asks of WEAR", () -> Calls.with("a1+0;a1+0;a5+0;a5+0"), asks, 12, 2);
        Calls.question("asks of STANDING", () -> {
            TypeAtNight x = Calls.with("a1+0;a1+0");
            Calls.put(x, "a").sets(0);
            x.sheet(2, 2, 1, 0);
            return x;
        }, asks, 20, 1);
        Calls.question("asks of BOX", () -> {
            TypeAtNight x = Calls.with("h0+0;h0+0;h0+0");
            x.moves(1, 6);
            return x;
        }, asks, 36, 2);
        Calls.question("asks of a LETTER", () -> Calls.with("a0+0;g0+9;g0+9;h0+9"), asks, 6, 2);
        Calls.question("asks of the greatest MOOD", () -> Calls.with("a0+8;a0+9"), asks, 49, 1);
        Calls.question("asks of the greatest WEAR", () -> Calls.with("a8+0;a9+0"), asks, 19, 1);
        Calls.question("asks of the last LETTER", () -> Calls.with("h0+0;h0+0;a0+0;b0+0"), asks, 7, 2);
        Calls.question("asks of twelve like ones", () -> Calls.with("h0+0" + ";h0+0".repeat(11)), asks, 0, 12);
        Calls.question("asks of one", () -> Calls.with("h3+0"), asks, 0, 1);
        Calls.question("asks of like ones", () -> Calls.with("h0+0;h0+0;h0+0"), asks, 0, 3);
        Calls.question("asks of those that fit", Calls.hearing(FOUR, 2, 0, 4, 0), asks, 0, 1);
        Calls.question("asks of one that fits", Calls.hearing(FOUR, 2, 1), asks, 0, 1);
        Calls.refused("asks of none", TypeAtNight::new, asks, -2);
        Calls.refused("asks, none fits", Calls.hearing(FOUR, 0, 7), asks, -2);
    }

    private static Supplier<TypeAtNight> seeing(int... moods) {
        return Calls.seeing(FOUR, moods);
    }

    private static void saw() {
        Calls.promise("35 saw");
        TypeAtNight x = FOUR.get();
        Calls.mark(x);
        String row = Calls.rowOf(x);
        for (int j = 1; j <= 10; j++) {
            Calls.due("saw", x.saw(j % 2 == 0 ? 9 : -9, j % 3 == 0 ? 9 : -9, j % 5 == 0 ? 9 : -9), j);
            Calls.due("count(7)", x.count(7), j);
        }
        Calls.due("saw, an eleventh", x.saw(0, 0, 0), -1);
        Calls.due("count(7)", x.count(7), 10);
        Calls.due("the ROW stays", Calls.rowOf(x), row);
        int[] others = {10, -10, Integer.MIN_VALUE, Integer.MAX_VALUE};
        for (int v : others) {
            Calls.refused("saw(" + v + ", 0, 0)", FOUR, y -> y.saw(v, 0, 0), -1);
            Calls.refused("saw(0, " + v + ", 0)", FOUR, y -> y.saw(0, v, 0), -1);
            Calls.refused("saw(0, 0, " + v + ")", FOUR, y -> y.saw(0, 0, v), -1);
        }
    }

    private static void denies() {
        Calls.promise("36 denies");
        TypeAtNight x = seeing(0, 9, 9, 0, 9, 0).get();
        Calls.mark(x);
        String row = Calls.rowOf(x);
        Calls.due("denies", x.denies(), 2);
        Calls.due("count(7)", x.count(7), 0);
        Calls.due("the ROW stays", Calls.rowOf(x), row);
        Calls.due("all laws fit", x.laws(), 30);
        Calls.due("denies of none", x.denies(), 0);
        Calls.due("saw anew", x.saw(0, 9, 0), 1);
        Calls.due("laws", x.laws(), 5);
    }

    private static void laws() {
        Calls.promise("37 laws");
        ToIntFunction<TypeAtNight> laws = TypeAtNight::laws;
        Calls.question("laws", FOUR, laws, 30, 0, 1);
        Calls.question("laws, as much as it can be", seeing(0, 9, 9), laws, 15, 1, 1);
        Calls.question("laws, nothing", seeing(0, 9, 0), laws, 5, 0, 1);
        Calls.question("laws, by half", seeing(0, 9, 4), laws, 2, 1, 2);
        Calls.question("laws, by half, cut to 0 below 0 too", seeing(9, 0, 5), laws, 2, 1, 2);
        Calls.question("laws, put to -9", seeing(-5, -9, -9), laws, 15, 1, 1);
        Calls.question("laws, by thirds", seeing(0, 3, 2, 0, 9, 6), laws, 2, 2, 3);
        Calls.question("laws, by both", seeing(0, 1, 1), laws, 9, 1, 1);
        Calls.question("laws of 5 by 1", seeing(0, 1, 5), laws, 1, 5, 1);
        Calls.question("laws of 1 by 5", seeing(0, 9, 1), laws, 1, 1, 5);
        Calls.question("laws, like MOODS say nothing", seeing(3, 3, 3), laws, 30, 0, 1);
        Calls.question("laws, none", seeing(3, 3, 4), laws, 0);
        Calls.question("laws, none of both", seeing(0, 9, 9, 0, 9, 0), laws, 0);
    }

    private static void looks() {
        Calls.promise("38 looks");
        ToIntFunction<TypeAtNight> looks = TypeAtNight::looks;
        // From -9 beside -4: of 30 laws 5 stay at -9 and 15 go to -4 or beyond it.
        Calls.question("looks", FOUR, looks, 5, 5);
        Calls.question("looks of two that are alike", seeing(0, 9, 4), looks, 0, 2);
        Calls.question("looks of nine", seeing(0, 1, 1), looks, 4, 5);
        Calls.question("looks of one", seeing(0, 1, 5), looks, 0, 1);
        Calls.refused("looks, none fits", seeing(3, 3, 4), looks, -2);
    }
}
