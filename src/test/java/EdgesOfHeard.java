import java.util.function.Supplier;
import java.util.function.ToIntFunction;

/** Edges that promises 31 to 38 name. */
final class EdgesOfHeard {
    /** a 0+4; a 2-2 in BOX 5; b, STANDING, 2+3; c 9+0. */
    private static final Supplier<TypeAtNight> FOUR = () -> {
        TypeAtNight x = Calls.set(Calls.with("a0+4;a2-2;b1+3;c9+0"), "b", 0);
        x.moves(1, 5);
        return x;
    };

    private EdgesOfHeard() {
    }

    static void all(Document doc) {
        heard(doc);
        heardRefused(doc);
        forget(doc);
        fits(doc);
        asks(doc);
        asksOfNone(doc);
        saw(doc);
        sawRefused(doc);
        denies(doc);
        mixingByTerms(doc);
        laws(doc);
        looks(doc);
        looksOfNone(doc);
    }

    private static void heard(Document doc) {
        doc.promise(31, "what 0: LETTER is v (0 .. 7); 1: WEAR is v (0 .. 9) or more; 2: it is STANDING (1) or not "
                + "(0); 3: its BOX is v (0 .. 7); 4: MOOD is v (0 .. 9) or more: how many such.");
        int[] most = {7, 9, 1, 7, 9};
        for (int what = 0; what <= 4; what++) {
            TypeAtNight x = FOUR.get();
            Calls.due("heard(" + what + ", 0)", x.heard(what, 0), 1);
            Calls.due("heard(" + what + ", " + most[what] + ")", x.heard(what, most[what]), 2);
            Calls.due("what was heard", x.count(6), 2);
            int of = what;
            Calls.others("heard(" + what + ")", FOUR, "", (y, v) -> y.heard(of, v), 0, most[what], -1);
        }
        // Each of these is so of one SORT and not so of another by just 1.
        fitting("WEAR 2", 14, 1, 2);
        fitting("WEAR 3", 8, 1, 3);
        fitting("WEAR 9", 8, 1, 9);
        fitting("WEAR 0", 15, 1, 0);
        fitting("MOOD 0", 13, 4, 0);
        fitting("MOOD 3", 5, 4, 3);
        fitting("MOOD 4", 1, 4, 4);
        fitting("MOOD 5", 0, 4, 5);
        fitting("STANDING", 4, 2, 1);
        fitting("not STANDING", 11, 2, 0);
        fitting("BOX 5", 2, 3, 5);
        fitting("LETTER 0", 3, 0, 0);
        fitting("LETTER 7", 0, 0, 7);
    }

    private static void fitting(String what, long want, int... heard) {
        Calls.question("fits " + what, Calls.hearing(FOUR, heard), TypeAtNight::fits, want, Long.bitCount(want));
    }

    private static void heardRefused(Document doc) {
        doc.promise(31, "Refused: others, 12.");
        Calls.others("heard of 0", FOUR, "", (x, what) -> x.heard(what, 0), 0, 4, -1);
        TypeAtNight x = FOUR.get();
        for (int n = 1; n <= 12; n++) {
            Calls.due("heard", x.heard(2, 0), n);
        }
        Calls.due("a thirteenth", x.heard(0, 3), -1);
        Calls.due("what was heard", x.count(6), 12);
        Calls.due("it is not heard", x.fits(), 11);
        Calls.due("forget", x.forget(), 12);
        Calls.due("heard anew", x.heard(0, 2), 1);
    }

    private static void forget(Document doc) {
        doc.promise(32, "It is forgotten: how many there were.");
        TypeAtNight x = Calls.hearing(FOUR, 0, 7).get();
        Calls.due("forget of one", x.forget(), 1);
        Calls.due("forget of none", x.forget(), 0);
        Calls.due("what was heard", x.count(6), 0);
        Calls.due("all fit", x.fits(), 15);
        Calls.due("forget of a new object", new TypeAtNight().forget(), 0);
    }

    private static void fits(Document doc) {
        doc.promise(33, "SORTS (bits) that fit all that was heard now; the ROW: how many.");
        fitting("nothing heard", 15);
        fitting("both", 1, 0, 0, 4, 0);
        fitting("neither", 0, 2, 0, 2, 1);
        Calls.question("fits without SORTS", TypeAtNight::new, TypeAtNight::fits, 0, 0);
        Calls.question("fits of twelve", () -> Calls.with("a0+0" + ";a0+0".repeat(11)), TypeAtNight::fits, 4095, 12);
        TypeAtNight x = Calls.hearing(FOUR, 2, 1).get();
        x.nights(1);
        Calls.due("now none is STANDING", x.fits(), 0);
        x.undo();
        Calls.due("now it is again", x.fits(), 4);
    }

    private static void asks(Document doc) {
        doc.promise(34, "the fewest such SORTS are left at most: 10 times what and v, as they may be heard, of equal "
                + "ones the least: it; the ROW: how many at most.");
        ToIntFunction<TypeAtNight> asks = TypeAtNight::asks;
        Calls.question("asks of one", () -> Calls.with("h3+0"), asks, 0, 1);
        Calls.question("asks of twelve like ones", () -> Calls.with("h0+0" + ";h0+0".repeat(11)), asks, 0, 12);
        Calls.question("asks of a LETTER, the least", () -> Calls.with("a0+0;b0+0"), asks, 0, 1);
        Calls.question("asks of the last LETTER", () -> Calls.with("h0+0;h0+0;a0+0;b0+0"), asks, 7, 2);
        Calls.question("asks of the least WEAR that tells", () -> Calls.with("a0+0;a5+0"), asks, 11, 1);
        Calls.question("asks of the greatest WEAR", () -> Calls.with("a8+0;a9+0"), asks, 19, 1);
        Calls.question("asks whether it is STANDING", () -> Calls.set(Calls.with("a1+0;a2+0"), "a", 0), asks, 20, 1);
        Calls.question("asks of the last BOX", () -> {
            TypeAtNight x = Calls.with("a0+0" + ";a0+0".repeat(5));
            for (int sort = 0; sort < 6; sort++) {
                x.moves(sort, sort < 3 ? 7 : sort + 1);
            }
            return x;
        }, asks, 37, 3);
        Calls.question("asks of the greatest MOOD", () -> Calls.with("a0+8;a0+9"), asks, 49, 1);
        Calls.question("asks of MOOD 0", () -> Calls.with("a0-1;a0+0"), asks, 40, 1);
        Calls.question("asks of those below 0", () -> Calls.with("a0-1;a0-9"), asks, 0, 2);
    }

    private static void asksOfNone(Document doc) {
        doc.promise(34, "-2: none fits.");
        Calls.refused("asks without SORTS", TypeAtNight::new, TypeAtNight::asks, -2);
        Calls.refused("asks, none fits", Calls.hearing(FOUR, 0, 7), TypeAtNight::asks, -2);
    }

    private static Supplier<TypeAtNight> seeing(int... moods) {
        return Calls.seeing(TypeAtNight::new, moods);
    }

    private static void saw(Document doc) {
        doc.promise(35, "It was seen that MOOD m (-9 .. 9) beside c (-9 .. 9) became u (-9 .. 9): how many such.");
        TypeAtNight x = new TypeAtNight();
        for (int j = 0; j < 8; j++) {
            Calls.due("saw", x.saw((j & 4) == 0 ? -9 : 9, (j & 2) == 0 ? -9 : 9, (j & 1) == 0 ? -9 : 9), j + 1);
        }
        Calls.others("saw m", seeing(), "", (y, m) -> y.saw(m, 0, 0), -9, 9, -1);
        Calls.others("saw c", seeing(), "", (y, c) -> y.saw(0, c, 0), -9, 9, -1);
        Calls.others("saw u", seeing(), "", (y, u) -> y.saw(0, 0, u), -9, 9, -1);
    }

    private static void sawRefused(Document doc) {
        doc.promise(35, "Refused: others, 10.");
        TypeAtNight x = new TypeAtNight();
        for (int n = 1; n <= 10; n++) {
            Calls.due("saw", x.saw(0, 9, 0), n);
        }
        Calls.due("an eleventh", x.saw(0, 9, 9), -1);
        Calls.due("what was seen", x.count(7), 10);
        Calls.due("it is not seen", x.laws(), 5);
        Calls.due("denies", x.denies(), 10);
        Calls.due("saw anew", x.saw(0, 9, 9), 1);
        Calls.due("it is seen", x.laws(), 15);
    }

    private static void denies(Document doc) {
        doc.promise(36, "It is denied: how many there were.");
        TypeAtNight x = seeing(3, 3, 4).get();
        Calls.due("denies of one", x.denies(), 1);
        Calls.due("denies of none", x.denies(), 0);
        Calls.due("what was seen", x.count(7), 0);
        Calls.due("all laws fit", x.laws(), 30);
    }

    private static void mixingByTerms(Document doc) {
        doc.terms("laws of mixing (a 0 .. 5, b 1 .. 5: MOOD m beside a MOOD c becomes m and D: a times (c less m), "
                + "and that by b (cut to 0); put to -9 .. 9).");
        ToIntFunction<TypeAtNight> laws = TypeAtNight::laws;
        Calls.question("a 0", seeing(0, 9, 0), laws, 5, 0, 1);
        Calls.question("a 5, b 1", seeing(0, 1, 5), laws, 1, 5, 1);
        Calls.question("a 1, b 5", seeing(0, 9, 1), laws, 1, 1, 5);
        Calls.question("a 5, b 5, as a 1, b 1", seeing(0, 8, 8), laws, 5, 1, 1);
        Calls.question("cut to 0", seeing(0, 9, 4), laws, 2, 1, 2);
        Calls.question("cut to 0 below 0", seeing(0, -9, -4), laws, 2, 1, 2);
        Calls.question("put to 9", seeing(-9, 9, 9), laws, 15, 1, 1);
        Calls.question("put to -9", seeing(9, -9, -9), laws, 15, 1, 1);
        Calls.question("put to 9 from 8", seeing(8, 9, 9), laws, 15, 1, 1);
    }

    private static void laws(Document doc) {
        doc.promise(37, "Laws (30 of them) that fit all that was seen: how many; the ROW: the least a, b (nothing "
                + "without).");
        ToIntFunction<TypeAtNight> laws = TypeAtNight::laws;
        Calls.question("laws, nothing seen", seeing(), laws, 30, 0, 1);
        Calls.question("laws, like MOODS say nothing", seeing(9, 9, 9, -9, -9, -9), laws, 30, 0, 1);
        Calls.question("laws, none", seeing(3, 3, 4), laws, 0);
        Calls.question("laws, none of both", seeing(0, 9, 9, 0, 9, 0), laws, 0);
        Calls.question("laws, one", seeing(0, 4, 3, 0, 5, 3, 0, 8, 6), laws, 1, 3, 4);
    }

    private static void looks(Document doc) {
        doc.promise(38, "so that, whatever comes, the fewest laws are left at most: 19 times 9 and m, and 9 and c, "
                + "of equal ones the least; the ROW: how many at most.");
        ToIntFunction<TypeAtNight> looks = TypeAtNight::looks;
        Calls.question("looks, nothing seen", seeing(), looks, 5, 5);
        Calls.question("looks of one law", seeing(0, 1, 5), looks, 0, 1);
        Calls.question("looks of like laws", seeing(0, 9, 4), looks, 0, 2);
        // 1 by 1 and 5 by 4 differ first where c is 4 more than m: 4 and 5.
        Calls.question("looks of those of 1 to 1 and more", seeing(0, 3, 3), looks, 4, 5);
    }

    private static void looksOfNone(Document doc) {
        doc.promise(38, "-2: none fits.");
        Calls.refused("looks, none fits", seeing(3, 3, 4), TypeAtNight::looks, -2);
    }
}
