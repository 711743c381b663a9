import java.util.function.Supplier;

/** Edges that promises 44 to 47 name. */
final class EdgesOfKept {
    private static final Supplier<TypeAtNight> FOUR = () -> Calls.with("a0+4;a2-2;b1+3;c9+0");

    private EdgesOfKept() {
    }

    static void all(Document doc) {
        keep(doc);
        again(doc);
        againRefused(doc);
        countOfLimits(doc);
        countRefused(doc);
        row(doc);
    }

    private static void keep(Document doc) {
        doc.promise(44, "What undo() brings back is kept under a number 0 .. 1: true. Refused: others.");
        for (int i = 0; i <= 1; i++) {
            int of = i;
            Calls.refused("keep(" + i + ") changes nothing", FOUR, x -> x.keep(of) ? 1 : 0, 1);
            Calls.due("keep(" + i + ") without SORTS", new TypeAtNight().keep(i), true);
        }
        Calls.others("keep", FOUR, "", (x, i) -> x.keep(i) ? 1 : 0, 0, 1, 0);
        TypeAtNight x = FOUR.get();
        x.nights(1);
        x.keep(0);
        x.nights(1);
        x.keep(1);
        x.keep(2);
        x.nights(1);
        Calls.due("again(0)", x.again(0), true);
        Calls.due("NIGHT", x.count(1), 1);
        Calls.due("again(1)", x.again(1), true);
        Calls.due("NIGHT", x.count(1), 2);
        x.keep(0);
        x.nights(5);
        x.again(0);
        Calls.due("NIGHT, kept last", x.count(1), 2);
    }

    private static void again(Document doc) {
        doc.promise(45, "It is as it was kept under a number.");
        TypeAtNight x = Calls.set(FOUR.get(), "ac", 3);
        x.nights(2);
        x.moves(1, 6);
        Calls.set(x, "b", -9);
        String kept = Calls.undoable(x);
        x.keep(1);
        x.sheet(2, 4, 9, -1);
        x.nights(60);
        x.cleans(0);
        x.heard(0, 1);
        x.saw(0, 0, 0);
        Calls.put(x, "3").rule();
        for (int time = 0; time < 2; time++) {
            Calls.due("again(1)", x.again(1), true);
            Calls.due("as it was kept", Calls.undoable(x), kept);
            x.nights(1);
            x.casts(0);
        }
        Calls.due("what was heard stays", x.count(6), 1);
        Calls.due("what was seen stays", x.count(7), 1);
        Calls.due("THE RULE stays", x.sort(0, 5), 13);
        TypeAtNight none = new TypeAtNight();
        none.keep(0);
        none.nights(3);
        Calls.due("again(0) without SORTS", none.again(0), true);
        Calls.due("NIGHT", none.count(1), 0);
    }

    private static void againRefused(Document doc) {
        doc.promise(45, "Refused: nothing kept, SORTS came since.");
        Supplier<TypeAtNight> cleaned = () -> {
            TypeAtNight x = FOUR.get();
            x.cleans(0);
            return x;
        };
        for (int i = 0; i <= 1; i++) {
            int of = i;
            Calls.refused("again(" + i + "), nothing kept", cleaned, x -> x.again(of) ? 1 : 0, 0);
            Calls.refused("again(" + i + "), kept under the other", () -> {
                TypeAtNight x = FOUR.get();
                x.keep(1 - of);
                x.cleans(0);
                return x;
            }, x -> x.again(of) ? 1 : 0, 0);
            Calls.refused("again(" + i + "), SORTS came since", () -> {
                TypeAtNight x = FOUR.get();
                x.keep(of);
                Calls.put(x, "h0+0").sorts();
                x.cleans(0);
                return x;
            }, x -> x.again(of) ? 1 : 0, 0);
        }
        Calls.others("again", () -> {
            TypeAtNight x = cleaned.get();
            x.keep(0);
            x.keep(1);
            return x;
        }, "", (x, i) -> x.again(i) ? 1 : 0, 0, 1, 0);
        TypeAtNight x = new TypeAtNight();
        x.keep(0);
        Calls.put(x, "a0+0;").sorts();
        Calls.put(x, "").sorts();
        Calls.due("again(0): none came", x.again(0), true);
        Calls.put(x, "a0+0").sorts();
        Calls.due("again(0): the first came", x.again(0), false);
        Calls.due("again(0): and still", x.again(0), false);
        x.keep(0);
        Calls.due("again(0): kept anew", x.again(0), true);
    }

    private static void countOfLimits(Document doc) {
        doc.promise(46, "What 0: SORTS, 1: NIGHT, 2: which are STANDING (bits), 3: WEAR of all, 4: 200 and MOODS of "
                + "all, 5: how many are in the BOX of their LETTER, 6: what was heard, 7: what was seen, 8: what can "
                + "be undone, 9: numbers of the ROW, 10: signs of THE TEXT.");
        TypeAtNight x = Calls.with("a9-9" + ";a9-9".repeat(11), "0");
        x.nights(60);
        for (int n = 0; n < 13; n++) {
            x.heard(0, 0);
            x.saw(0, 0, 0);
            x.moves(n, 1);
        }
        x.moves(0, 0);
        Calls.set(x, "a".repeat(12), -9);
        Calls.put(x, "").law();
        Calls.put(x, "x".repeat(80));
        long[] full = {12, 60, 4095, 108, 92, 1, 12, 10, 12, 14, 80};
        for (int what = 0; what <= 10; what++) {
            Calls.due("count(" + what + "), full", x.count(what), full[what]);
        }
        Calls.due("the greatest MOODS", Calls.with("h0+9" + ";h0+9".repeat(11)).count(4), 308);
    }

    private static void countRefused(Document doc) {
        doc.promise(46, "NONE for another what.");
        Calls.others("count", FOUR, "", (x, what) -> x.count(what), 0, 10, -1);
        Calls.others("count without SORTS", TypeAtNight::new, "", (x, what) -> x.count(what), 0, 10, -1);
    }

    private static void row(Document doc) {
        doc.promise(47, "Number i of the ROW. NoSuchElementException: none such.");
        TypeAtNight x = FOUR.get();
        Calls.noSuch("row(0) of none", () -> x.row(0));
        Calls.noSuch("row(-1) of none", () -> x.row(-1));
        Calls.put(x, "0").law();
        long[] want = {9, 3, 14, 8, 13, 10};
        for (int i = 0; i < want.length; i++) {
            Calls.due("row(" + i + ")", x.row(i), want[i]);
        }
        for (int i : new int[] {-1, 6, 14, Integer.MIN_VALUE, Integer.MAX_VALUE}) {
            Calls.noSuch("row(" + i + ")", () -> x.row(i));
        }
        x.mixed();
        Calls.due("row(0) of a shorter one", x.row(0), 0);
        Calls.noSuch("row(1) of a shorter one", () -> x.row(1));
        x.galley(0);
        Calls.noSuch("row(0) of an empty one", () -> x.row(0));
        TypeAtNight twelve = Calls.with("a0+1" + ";a0+1".repeat(11));
        Calls.put(twelve, "0").law();
        Calls.due("row(13), the last of the longest", twelve.row(13), 11);
        Calls.noSuch("row(14)", () -> twelve.row(14));
        Calls.put(twelve, "a".repeat(12)).reads(1);
        Calls.due("a number beyond ints", twelve.row(1), 1000000000000L);
    }
}
