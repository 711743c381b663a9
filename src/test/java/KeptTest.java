import java.util.function.Supplier;

/** Promises 44 to 47: what is kept, what is counted, the ROW. */
public final class KeptTest {
    private static final Supplier<TypeAtNight> FOUR = () -> Calls.with("a0+4;a2-2;b1+3;c9+0");

    public static void main(String[] args) {
        keep();
        again();
        againRefused();
        count();
        row();
        rowThatStays();
        Calls.close("KeptTest");
    }

    private static void keep() {
        Calls.promise("44 keep");
        int[] others = {-1, 2, Integer.MIN_VALUE, Integer.MAX_VALUE};
        for (int i : others) {
            Calls.refused("keep(" + i + ")", FOUR, x -> x.keep(i) ? 1 : 0, 0);
        }
        Calls.refused("keep(0) changes nothing", FOUR, x -> x.keep(0) ? 1 : 0, 1);
        Calls.refused("keep(1) changes nothing", FOUR, x -> x.keep(1) ? 1 : 0, 1);
        Calls.due("keep(0) without SORTS", new TypeAtNight().keep(0), true);
        TypeAtNight x = FOUR.get();
        x.cleans(0);
        x.keep(0);
        Calls.due("what can be undone stays", x.count(8), 1);
        x.nights(3);
        x.keep(0);
        x.cleans(2);
        x.again(0);
        Calls.due("the later one is kept", x.count(1), 3);
    }

    private static void again() {
        Calls.promise("45 again");
        TypeAtNight x = FOUR.get();
        x.nights(2);
        Calls.put(x, "ac").sets(3);
        x.moves(1, 6);
        String first = Calls.undoable(x);
        x.keep(1);
        x.nights(4);
        x.casts(3);
        x.cleans(0);
        String second = Calls.undoable(x);
        x.keep(0);
        Calls.put(x, "abc").sets(-9);
        x.heard(0, 1);
        Calls.put(x, "3").rule();
        Calls.mark(x);
        String row = Calls.rowOf(x);
        Calls.due("again(1)", x.again(1), true);
        Calls.due("as it was kept under 1", Calls.undoable(x), first);
        Calls.due("nothing can be undone", x.count(8), 0);
        Calls.due("undo", x.undo(), -1);
        Calls.due("the ROW stays", Calls.rowOf(x), row);
        Calls.due("what was heard stays", x.count(6), 1);
        Calls.due("THE RULE stays", x.sort(0, 5), 13);
        Calls.due("again(0)", x.again(0), true);
        Calls.due("as it was kept under 0", Calls.undoable(x), second);
        x.nights(1);
        Calls.due("again(0), once more", x.again(0), true);
        Calls.due("as it was kept under 0", Calls.undoable(x), second);
    }

    private static void againRefused() {
        Calls.promise("45 again");
        int[] others = {-1, 0, 1, 2, Integer.MIN_VALUE, Integer.MAX_VALUE};
        for (int i : others) {
            Calls.refused("again(" + i + "), nothing kept", () -> {
                TypeAtNight x = FOUR.get();
                x.cleans(0);
                return x;
            }, x -> x.again(i) ? 1 : 0, 0);
        }
        Calls.refused("again(0), kept under 1", () -> {
            TypeAtNight x = FOUR.get();
            x.keep(1);
            x.cleans(0);
            return x;
        }, x -> x.again(0) ? 1 : 0, 0);
        Calls.refused("again(0), SORTS came since", () -> {
            TypeAtNight x = FOUR.get();
            x.keep(0);
            Calls.put(x, "h0+0").sorts();
            x.cleans(0);
            return x;
        }, x -> x.again(0) ? 1 : 0, 0);
        TypeAtNight x = FOUR.get();
        x.keep(0);
        Calls.put(x, "").sorts();
        Calls.put(x, "x").sorts();
        Calls.due("again(0): none came", x.again(0), true);
        Calls.put(x, "h0+0").sorts();
        x.keep(1);
        Calls.due("again(0): one came", x.again(0), false);
        Calls.due("again(1): none came", x.again(1), true);
        x.keep(0);
        Calls.due("again(0): kept anew", x.again(0), true);
    }

    private static void count() {
        Calls.promise("46 count");
        TypeAtNight x = FOUR.get();
        Calls.put(x, "ab").sets(2);
        x.moves(1, 5);
        x.heard(0, 0);
        x.heard(1, 0);
        x.saw(0, 0, 0);
        x.sign(0);
        long[] want = {4, 0, 5, 14, 209, 3, 2, 1, 2, 2, 4, -1};
        for (int what = 0; what < want.length; what++) {
            Calls.due("count(" + what + ")", x.count(what), want[what]);
        }
        x.nights(60);
        Calls.due("NIGHT", x.count(1), 60);
        Calls.due("STANDING", x.count(2), 0);
        Calls.due("numbers of the ROW", x.count(9), 1);
        int[] others = {-1, 11, Integer.MIN_VALUE, Integer.MAX_VALUE};
        for (int what : others) {
            Calls.refused("count(" + what + ")", FOUR, y -> y.count(what), -1);
        }
        TypeAtNight low = Calls.with("a0-9" + ";a0-9".repeat(11));
        Calls.due("200 and MOODS", low.count(4), 92);
    }

    private static void row() {
        Calls.promise("47 row");
        TypeAtNight x = FOUR.get();
        Calls.noSuch("row(0) of none", () -> x.row(0));
        Calls.put(x, "0").law();
        long[] want = {9, 3, 14, 8, 13, 10};
        for (int i = 0; i < want.length; i++) {
            Calls.due("row(" + i + ")", x.row(i), want[i]);
        }
        int[] others = {-1, 6, 14, Integer.MIN_VALUE, Integer.MAX_VALUE};
        for (int i : others) {
            Calls.noSuch("row(" + i + ")", () -> x.row(i));
        }
        x.nights(0);
        Calls.due("row(0)", x.row(0), 205);
        Calls.noSuch("row(1), told ahead of it", () -> x.row(1));
        x.galley(0);
        Calls.noSuch("row(0), nothing told", () -> x.row(0));
    }

    /** Calls that do not tell of the ROW leave it. */
    private static void rowThatStays() {
        Calls.promise("47 row");
        TypeAtNight x = FOUR.get();
        Calls.mark(x);
        String row = Calls.rowOf(x);
        x.sign(0);
        x.end(0);
        Calls.put(x, "m").rule();
        x.sort(0, 0);
        x.box(0, 0);
        x.moves(0, 1);
        x.cleans(0);
        x.casts(1);
        x.undo();
        x.heard(0, 0);
        x.forget();
        x.saw(0, 0, 0);
        x.denies();
        x.keep(0);
        x.again(0);
        x.sheet(2, 1, 1, 1);
        x.count(0);
        Calls.put(x, "h0+0").sorts();
        Calls.due("the ROW", Calls.rowOf(x), row);
    }
}
