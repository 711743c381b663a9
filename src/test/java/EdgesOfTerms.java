import java.util.function.Supplier;

/** Edges that "What it is", "The public face" and the first of the "Terms" name, but for THE RULE. */
final class EdgesOfTerms {
    private static final String TWELVE = "a0+0" + ";a0+0".repeat(11);

    private EdgesOfTerms() {
    }

    static void all(Document doc) {
        calls(doc);
        face(doc);
        letters(doc);
        sorts(doc);
        lines(doc);
        night(doc);
        set(doc);
        taken(doc);
        worn(doc);
        distributed(doc);
        turned(doc);
        nightsCounted(doc);
        stillInBoxes(doc);
    }

    private static void calls(Document doc) {
        doc.section("What it is", "An object is used for at most 512 calls after it has been made");
        TypeAtNight nights = new TypeAtNight();
        for (int call = 1; call < 512; call++) {
            Calls.due("call " + call + ", nights(60)", nights.nights(60), 0);
        }
        Calls.due("call 512, NIGHT", nights.count(1), 511 * 60);
        TypeAtNight moved = new TypeAtNight();
        Calls.due("call 1", moved.sign(Calls.fourOf("a0+0", 0)), 4);
        Calls.due("call 2", moved.sorts(), 1);
        for (int call = 3; call < 512; call++) {
            Calls.due("call " + call, moved.moves(0, call % 2), call % 2 == 1 ? 10 : 11);
        }
        Calls.due("call 512, undo", moved.undo(), 11);
    }

    private static void face(Document doc) {
        doc.section("The public face", "public static final int NONE = -1;");
        Calls.due("NONE", TypeAtNight.NONE, -1);
        doc.section("The public face", "public TypeAtNight();");
        Calls.due("one object has nothing of another", sortsOfTwo(), "1 0");
    }

    private static String sortsOfTwo() {
        TypeAtNight one = Calls.with("a0+0");
        TypeAtNight other = new TypeAtNight();
        return one.count(0) + " " + other.count(0);
    }

    private static void letters(Document doc) {
        doc.terms("LETTERS 0 .. 7 (a .. h), BOXES 0 .. 7 (the BOX of a LETTER has its number).");
        TypeAtNight x = Calls.with("a0+0;b0+0;c0+0;d0+0;e0+0;f0+0;g0+0;h0+0");
        Calls.each("LETTERS", x, 0, 0, 1, 2, 3, 4, 5, 6, 7);
        for (int box = 0; box <= 7; box++) {
            Calls.due("SORTS of BOX " + box, x.box(box, 0), 1 << box);
        }
        Calls.faults("sorts", TypeAtNight::new, TypeAtNight::sorts, -1, "`0+0", 0, "i0+0", 0, "H0+0", 0);
    }

    private static void sorts(Document doc) {
        doc.terms("SORTS 0 .. (at most 12): a LETTER, WEAR 0 .. 9, MOOD -9 .. 9, a BOX (at first that of its "
                + "LETTER), STANDING (in a text) or not (at first not).");
        TypeAtNight x = Calls.with("c0-9;h9+9");
        long[][] first = {{2, 0, 1, 2, 0}, {7, 9, 19, 7, 0}};
        for (int what = 0; what < 5; what++) {
            Calls.each("SORTS as they come", x, what, first[0][what], first[1][what]);
        }
        TypeAtNight twelve = Calls.with(TWELVE);
        Calls.due("SORTS", twelve.count(0), 12);
        Calls.due("LETTER of the last", twelve.sort(11, 0), 0);
        Calls.refused("a thirteenth", () -> Calls.with(TWELVE), "a0+0", TypeAtNight::sorts, -1);
    }

    private static void lines(Document doc) {
        doc.terms("They are told by a text of at most 59 signs: LINES with ; between, each one more: a letter a .. "
                + "h, a digit (WEAR), + or -, a digit (MOOD).");
        Calls.due("signs of twelve LINES", TWELVE.length(), 59);
        Calls.due("twelve LINES", Calls.put(new TypeAtNight(), TWELVE).sorts(), 12);
        Calls.refused("sorts of 60 signs", TypeAtNight::new, TWELVE + "0", TypeAtNight::sorts, -60);
        TypeAtNight x = Calls.with("a0-0;b9+0;c0-1");
        Calls.each("WEAR", x, 1, 0, 9, 0);
        Calls.each("MOOD", x, 2, 10, 10, 9);
        Calls.faults("sorts", TypeAtNight::new, TypeAtNight::sorts, -1, "a/+0", 1, "a:+0", 1, "a0,0", 2, "a0.0", 2,
                "a0*0", 2, "a0+/", 3, "a0+:", 3, "a0+0:", 4, "a0+0,b0+0", 4);
    }

    private static void night(Document doc) {
        doc.terms("NIGHT (at first 0).");
        Calls.due("NIGHT", new TypeAtNight().count(1), 0);
        Calls.due("n of THE RULE", Calls.with("a0+0", "n=0").sort(0, 5), 11);
    }

    private static void set(Document doc) {
        doc.terms("A text of 1 to 12 letters a .. h is SET with a FEELING (-9 .. 9)");
        Supplier<TypeAtNight> twelve = () -> Calls.with(TWELVE);
        Calls.refused("none", twelve, "", x -> x.sets(0), -1);
        Calls.due("one", Calls.put(twelve.get(), "a").sets(-9), 1);
        Calls.due("twelve", Calls.put(twelve.get(), "a".repeat(12)).sets(9), 4095);
        Calls.refused("thirteen", twelve, "a".repeat(13), x -> x.sets(0), -13);
        Calls.others("sets", twelve, "a", (x, v) -> x.sets(v), -9, 9, -100);
        Calls.due("the last letter", Calls.put(Calls.with("h0+0"), "h").sets(0), 1);
        Calls.faults("sets", twelve, x -> x.sets(0), -1, "`", 0, "i", 0, "a`", 1, "ai", 1);
    }

    private static void taken(Document doc) {
        doc.terms("its letters, one behind the other, take each the SORT of that LETTER that is not STANDING (also "
                + "not by this text) and has the least WEAR (of like ones the first)");
        Supplier<TypeAtNight> four = () -> Calls.with("a2+0;a1+0;b0+0;a1+0");
        TypeAtNight x = four.get();
        Calls.due("the least WEAR, of like ones the first", Calls.put(x, "a").sets(0), 2);
        Calls.due("one of like WEAR that is not STANDING", Calls.put(x, "a").sets(0), 8);
        Calls.due("the last", Calls.put(x, "a").sets(0), 1);
        Calls.due("none is left", Calls.put(x, "a").sets(0), -101);
        Calls.due("not one by this text twice", Calls.put(four.get(), "aa").sets(0), 10);
        Calls.due("nor thrice", Calls.put(four.get(), "aaba").sets(0), 15);
        Calls.due("there are but three", Calls.put(four.get(), "aaaa").sets(0), -101);
    }

    private static void worn(Document doc) {
        doc.terms("each that is taken is STANDING from then on, its WEAR is 1 more (9 at most), its MOOD FEELING "
                + "more (put to -9 .. 9).");
        TypeAtNight x = Calls.with("a7+0;b8+1;c9+8;d9+9;e0-1");
        Calls.set(x, "abcd", 8);
        Calls.each("STANDING", x, 4, 1, 1, 1, 1, 0);
        Calls.each("WEAR", x, 1, 8, 9, 9, 9, 0);
        Calls.each("MOOD", x, 2, 18, 19, 19, 19, 9);
        TypeAtNight y = Calls.with("a0+0;b0-1;c0-8;d0-9;e0+1");
        Calls.set(y, "abcd", -8);
        Calls.each("MOOD", y, 2, 2, 1, 1, 1, 11);
        TypeAtNight far = Calls.with("a0+9;b0-9");
        Calls.set(far, "a", -9);
        Calls.set(far, "b", 9);
        Calls.each("MOOD", far, 2, 10, 10);
    }

    private static void distributed(Document doc) {
        doc.terms("(1) each that is STANDING is not any more, and goes to the BOX of its LETTER, but one of WEAR 9 "
                + "to the next BOX (behind 7: 0).");
        TypeAtNight x = Calls.with("h9+0;g8+0;a9+0;c7+0;d9+0;e0+0", "0");
        x.moves(3, 5);
        x.moves(4, 6);
        x.moves(5, 1);
        Calls.set(x, "hgac", 0);
        Calls.due("at home behind it", x.nights(1), 1);
        Calls.each("STANDING", x, 4, 0, 0, 0, 0, 0, 0);
        // h, g and a are of WEAR 9 then, c is not; d, of WEAR 9, and e are not STANDING and stay.
        Calls.each("BOX", x, 3, 0, 7, 1, 2, 6, 1);
        x.nights(1);
        Calls.each("BOX a NIGHT later", x, 3, 0, 7, 1, 2, 6, 1);
        Calls.set(x, "hd", 0);
        x.casts(0);
        x.nights(1);
        Calls.each("BOX of one cast anew, and of one that was not", x, 3, 7, 7, 1, 2, 4, 1);
        Calls.set(x, "g", 0);
        x.nights(1);
        Calls.due("BOX of one that is there already", x.sort(1, 3), 7);
    }

    private static void turned(Document doc) {
        doc.terms("(2) all as all is then: MOOD of each is TURN more (put to -9 .. 9).");
        TypeAtNight sums = Calls.with("a0+1;a0+2;a0+3", "b");
        sums.nights(1);
        Calls.each("MOODS of the others as they were", sums, 2, 16, 16, 16);
        TypeAtNight up = Calls.with("a0+8;b0+9;c0-9;d0-1", "9");
        up.nights(1);
        Calls.each("MOOD, up", up, 2, 19, 19, 10, 18);
        TypeAtNight down = Calls.with("a0-8;b0-9;c0+9;d0+1", "-9");
        down.nights(1);
        Calls.each("MOOD, down", down, 2, 1, 1, 10, 2);
        TypeAtNight home = Calls.with("a0+4;b9+2;c0+1", "b");
        home.moves(0, 1);
        Calls.set(home, "ab", 0);
        home.nights(1);
        // a goes home and is alone; b, of WEAR 9, comes to c.
        Calls.each("BOXES as they are behind (1)", home, 2, 14, 13, 13);
    }

    private static void nightsCounted(Document doc) {
        doc.terms("(3) NIGHT is 1 more.");
        TypeAtNight x = Calls.with("a0+0", "n+1");
        x.nights(1);
        Calls.due("NIGHT", x.count(1), 1);
        Calls.due("MOOD by NIGHT as it was", x.sort(0, 2), 11);
        x.nights(1);
        Calls.due("NIGHT", x.count(1), 2);
        Calls.due("MOOD by NIGHT as it was", x.sort(0, 2), 13);
    }

    private static void stillInBoxes(Document doc) {
        doc.terms("(SORTS that are STANDING are still in the BOX where they were, for all that asks of BOXES ahead "
                + "of it.)");
        TypeAtNight x = Calls.with("a9+4;b0-2;b0+3", "k*3+b");
        x.moves(0, 1);
        Calls.set(x, "ab", 0);
        Calls.due("its BOX", x.sort(0, 3), 1);
        Calls.due("SORTS of the BOX", x.box(1, 0), 7);
        Calls.due("MOODS of the BOX", x.box(1, 1), 205);
        Calls.due("SORTS of the BOX of its LETTER", x.box(0, 0), 0);
        Calls.due("TURN", x.sort(0, 5), 17);
        Calls.due("TURN of one beside it", x.sort(2, 5), 18);
        Calls.due("SORTS at home", x.count(5), 2);
        Calls.due("mixed", x.mixed(), 1);
        Calls.row("mixed", x, 2);
        Calls.due("rubs", x.rubs(), 6);
        Calls.row("rubs", x, 0, 1);
        Calls.due("later(0, 0)", x.later(0, 0), 14);
        Calls.row("later(0, 0)", x, 1, 205);
        x.heard(3, 1);
        Calls.due("fits", x.fits(), 7);
    }
}
