import java.util.function.Supplier;

/** Promises 9 to 15: texts that are set, nights, sorts moved, cleaned, cast anew; weeks; what is undone. */
public final class NightsTest {
    private static final String FIVE = "a3+1;a1+2;a1-3;b0+9;b0-9";
    private static final String FOUR = "a0+4;a2-2;b1+3;c9+0";

    public static void main(String[] args) {
        sets();
        setsRefused();
        nights();
        nightsByBoxes();
        moves();
        cleans();
        casts();
        week();
        weekThatGetsStuck();
        weekThatCantStand();
        undo();
        undoOfTwelve();
        undoForgotten();
        Calls.close("NightsTest");
    }

    private static void same(TypeAtNight x, int what, long... want) {
        for (int sort = 0; sort < want.length; sort++) {
            Calls.due("sort(" + sort + ", " + what + ")", x.sort(sort, what), want[sort]);
        }
    }

    private static void sets() {
        Calls.promise("9 sets");
        TypeAtNight x = Calls.with(FIVE);
        Calls.due("sets a", Calls.put(x, "a").sets(2), 2);
        Calls.row("sets a", x, 202, 204);
        Calls.due("signs then", x.count(10), 0);
        Calls.due("sets a again: of like WEAR the first that is free", Calls.put(x, "a").sets(-9), 4);
        Calls.row("sets a again", x, 197, 191);
        Calls.due("sets bb", Calls.put(x, "bb").sets(9), 24);
        Calls.row("sets bb", x, 200, 209);
        Calls.due("sets a, the last", Calls.put(x, "a").sets(0), 1);
        Calls.row("sets a, the last", x, 201, 201);
        same(x, 1, 4, 2, 2, 1, 1);
        same(x, 2, 11, 14, 1, 19, 10);
        same(x, 4, 1, 1, 1, 1, 1);
        same(x, 3, 0, 0, 0, 1, 1);
        Calls.due("what can be undone", x.count(8), 4);
        TypeAtNight y = Calls.with(FIVE);
        Calls.due("sets aba", Calls.put(y, "aba").sets(-1), 14);
        Calls.row("sets aba", y, 208, 205);
        TypeAtNight z = Calls.with("a9+0;a9+1;a8-1");
        Calls.due("sets the least worn", Calls.put(z, "a").sets(1), 4);
        Calls.due("sets the first of like WEAR", Calls.put(z, "a").sets(1), 1);
        same(z, 1, 9, 9, 9);
        TypeAtNight all = Calls.with("a0+1" + ";a0+1".repeat(11));
        Calls.due("sets twelve", Calls.put(all, "a".repeat(12)).sets(9), 4095);
        Calls.row("sets twelve", all, 212, 308);
    }

    private static void setsRefused() {
        Calls.promise("9 sets");
        Supplier<TypeAtNight> five = () -> Calls.with(FIVE);
        Calls.refused("sets", five, "", x -> x.sets(0), -1);
        Calls.refused("sets", five, "i", x -> x.sets(0), -1);
        Calls.refused("sets", five, "aA", x -> x.sets(0), -2);
        Calls.refused("sets", five, "a;b", x -> x.sets(0), -2);
        Calls.refused("sets", five, "a".repeat(12), x -> x.sets(0), -101);
        Calls.refused("sets", five, "a".repeat(13), x -> x.sets(0), -13);
        Calls.refused("sets", five, "a".repeat(12) + "x", x -> x.sets(0), -13);
        Calls.refused("sets", five, "a".repeat(11) + "xx", x -> x.sets(0), -12);
        Calls.refused("sets", five, "a".repeat(80), x -> x.sets(0), -13);
        Calls.refused("sets(10)", five, "a", x -> x.sets(10), -100);
        Calls.refused("sets(-10)", five, "a", x -> x.sets(-10), -100);
        Calls.refused("sets(most)", five, "a", x -> x.sets(Integer.MAX_VALUE), -100);
        Calls.refused("sets(10), too few", five, "c", x -> x.sets(10), -100);
        Calls.refused("sets(10), wrong", five, "x", x -> x.sets(10), -1);
        Calls.refused("sets, too few", five, "aaaa", x -> x.sets(9), -101);
        Calls.refused("sets, too few of the last", five, "ac", x -> x.sets(1), -101);
        Calls.refused("sets, too few as some are STANDING", () -> {
            TypeAtNight x = five.get();
            Calls.put(x, "ba").sets(1);
            return x;
        }, "bb", x -> x.sets(-1), -101);
    }

    private static void nights() {
        Calls.promise("10 nights");
        TypeAtNight x = Calls.with("a0+4;a0-2");
        Calls.due("nights(1)", x.nights(1), 2);
        Calls.row("nights(1)", x, 202);
        same(x, 2, 11, 11);
        Calls.due("NIGHT", x.count(1), 1);
        Calls.due("nights(60)", x.nights(60), 2);
        Calls.due("NIGHT", x.count(1), 61);
        same(x, 2, 11, 11);
        TypeAtNight n = Calls.with("a0+0", "n");
        n.nights(3);
        Calls.due("MOOD behind n = 0, 1, 2", n.sort(0, 2), 13);
        TypeAtNight sevens = Calls.with("a0+0", "n=6");
        sevens.nights(6);
        Calls.due("MOOD behind six NIGHTS", sevens.sort(0, 2), 10);
        sevens.nights(1);
        Calls.due("MOOD behind seven NIGHTS", sevens.sort(0, 2), 11);
        sevens.nights(13);
        Calls.due("MOOD behind twenty NIGHTS", sevens.sort(0, 2), 12);
        TypeAtNight up = Calls.with("a0+8;b0-9", "999");
        up.nights(1);
        same(up, 2, 19, 10);
        up.nights(1);
        same(up, 2, 19, 19);
        TypeAtNight one = Calls.with("a0+4;a0-2");
        one.nights(1);
        Calls.due("nights(1) is kept", one.count(8), 1);
        one.undo();
        same(one, 2, 14, 8);
        TypeAtNight zero = Calls.with("a0+4;a0-2");
        zero.moves(0, 1);
        Calls.due("nights(0)", zero.nights(0), 1);
        Calls.row("nights(0)", zero, 202);
        Calls.due("is not kept", zero.count(8), 1);
        Supplier<TypeAtNight> four = () -> Calls.with(FOUR);
        int[] others = {-1, 61, Integer.MIN_VALUE, Integer.MAX_VALUE};
        for (int n2 : others) {
            Calls.refused("nights(" + n2 + ")", four, y -> y.nights(n2), -1);
        }
    }

    private static void nightsByBoxes() {
        Calls.promise("10 nights");
        TypeAtNight x = Calls.with("a0+4;b0-2");
        x.moves(0, 1);
        Calls.put(x, "a").sets(0);
        Calls.due("it goes home ahead of the TURN", x.nights(1), 2);
        same(x, 2, 12, 9);
        same(x, 3, 0, 1);
        same(x, 4, 0, 0);
        TypeAtNight y = Calls.with("h9+0;c8+0;c7+0;g9+0");
        Calls.put(y, "hccg").sets(0);
        same(y, 3, 7, 2, 2, 6);
        Calls.due("worn ones go to the next BOX", y.nights(1), 1);
        same(y, 3, 0, 3, 2, 7);
        Calls.due("and stay there", y.nights(2), 1);
        same(y, 3, 0, 3, 2, 7);
        TypeAtNight z = Calls.with("a9+1;b0+1;b0+1", "k*10+b");
        z.moves(1, 7);
        Calls.due("one that is not STANDING stays in its BOX", z.nights(1), 2);
        same(z, 3, 0, 7, 1);
        TypeAtNight all = Calls.with("a0+1;a0+2;a0+3", "b-m-m");
        all.nights(1);
        same(all, 2, 10 + 4, 10 + 2, 10);
    }

    private static void moves() {
        Calls.promise("11 moves");
        TypeAtNight x = Calls.with(FOUR);
        Calls.mark(x);
        String row = Calls.rowOf(x);
        Calls.due("moves(0, 7)", x.moves(0, 7), 10);
        Calls.due("moves(0, 3)", x.moves(0, 3), 17);
        Calls.due("moves(2, 0)", x.moves(2, 0), 11);
        same(x, 3, 3, 0, 0, 2);
        Calls.due("the ROW stays", Calls.rowOf(x), row);
        Calls.due("what can be undone", x.count(8), 3);
        Supplier<TypeAtNight> standing = () -> {
            TypeAtNight y = Calls.with(FOUR);
            Calls.put(y, "a").sets(0);
            return y;
        };
        Calls.refused("moves of one that is STANDING", standing, y -> y.moves(0, 3), -2);
        Calls.refused("moves of one that is STANDING there", standing, y -> y.moves(0, 0), -2);
        Calls.refused("moves to where it is", standing, y -> y.moves(1, 0), -3);
        int[] numbers = {-1, 4, Integer.MIN_VALUE, Integer.MAX_VALUE};
        for (int sort : numbers) {
            Calls.refused("moves(" + sort + ", 0)", standing, y -> y.moves(sort, 0), -1);
        }
        int[] boxes = {-1, 8, Integer.MIN_VALUE, Integer.MAX_VALUE};
        for (int box : boxes) {
            Calls.refused("moves(1, " + box + ")", standing, y -> y.moves(1, box), -1);
            Calls.refused("moves(0, " + box + ") of one that is STANDING", standing, y -> y.moves(0, box), -1);
        }
    }

    private static void cleans() {
        Calls.promise("12 cleans");
        TypeAtNight x = Calls.with("a0+9;b1-9;c9+0");
        Calls.put(x, "a").sets(0);
        String row = Calls.rowOf(x);
        Calls.due("cleans(0), which is STANDING", x.cleans(0), 19);
        Calls.due("cleans(1)", x.cleans(1), 1);
        same(x, 2, 10, 10, 10);
        same(x, 1, 1, 1, 9);
        Calls.due("the ROW stays", Calls.rowOf(x), row);
        Calls.due("what can be undone", x.count(8), 3);
        Supplier<TypeAtNight> three = () -> Calls.with("a0+9;b1-9;c9+0");
        Calls.refused("cleans(2)", three, y -> y.cleans(2), -2);
        int[] numbers = {-1, 3, Integer.MIN_VALUE, Integer.MAX_VALUE};
        for (int sort : numbers) {
            Calls.refused("cleans(" + sort + ")", three, y -> y.cleans(sort), -1);
        }
    }

    private static void casts() {
        Calls.promise("13 casts");
        TypeAtNight x = Calls.with("a0+9;b1-9;c9+5");
        Calls.put(x, "a").sets(0);
        String row = Calls.rowOf(x);
        Calls.due("casts(0), which is STANDING", x.casts(0), 1);
        Calls.due("casts(2)", x.casts(2), 9);
        same(x, 1, 0, 1, 0);
        same(x, 2, 19, 1, 15);
        Calls.due("the ROW stays", Calls.rowOf(x), row);
        Calls.due("what can be undone", x.count(8), 3);
        Supplier<TypeAtNight> three = () -> Calls.with("a0+9;b1-9;c9+0");
        Calls.refused("casts(0)", three, y -> y.casts(0), -2);
        int[] numbers = {-1, 3, Integer.MIN_VALUE, Integer.MAX_VALUE};
        for (int sort : numbers) {
            Calls.refused("casts(" + sort + ")", three, y -> y.casts(sort), -1);
        }
    }

    private static void week() {
        Calls.promise("14 week");
        TypeAtNight x = Calls.with(FOUR);
        Calls.due("week", Calls.put(x, "S+2abN1M015C02F03S-9c").week(), 6);
        Calls.row("week", x, 0, 1);
        Calls.due("signs then", x.count(10), 0);
        Calls.due("NIGHT", x.count(1), 1);
        Calls.due("what can be undone", x.count(8), 1);
        // a 4+2=6 beside -2: (-2-6)/2=-4; the other (6+2)/2=4; b 3+2=5 alone: -2, then cleaned; c -9
        same(x, 2, 12, 12, 10, 1);
        same(x, 1, 1, 2, 2, 1);
        same(x, 3, 0, 5, 1, 2);
        same(x, 4, 0, 0, 0, 1);
        Calls.due("undo of all of it", x.undo(), 0);
        same(x, 2, 14, 8, 13, 10);
        same(x, 1, 0, 2, 1, 9);
        same(x, 3, 0, 0, 1, 2);
        Calls.due("NIGHT", x.count(1), 0);
        TypeAtNight twelve = Calls.with("a0+1" + ";a0+1".repeat(11));
        Calls.due("week of twelve letters", Calls.put(twelve, "S-0" + "a".repeat(12)).week(), 1);
        Calls.row("week of twelve letters", twelve, 0, 12);
        TypeAtNight letters = Calls.with("c0+1;f0+1");
        Calls.due("c and C, f and F", Calls.put(letters, "S+1cfC00F01").week(), 3);
        Calls.row("c and C, f and F", letters, 0, 2);
        same(letters, 2, 10, 12);
        same(letters, 1, 1, 0);
        Calls.due("numbers of two digits, BOX 7", Calls.put(twelve, "N1M107C11M090M110").week(), 3);
        Calls.row("numbers of two digits, BOX 7", twelve, 1, 0);
        Calls.due("BOX of 10", twelve.sort(10, 3), 7);
        Calls.due("MOOD of 11", twelve.sort(11, 2), 10);
        TypeAtNight nine = Calls.with("a0+0", "1");
        Calls.due("week of sixty signs", Calls.put(nine, "N1".repeat(30)).week(), 30);
        Calls.due("NIGHT", nine.count(1), 30);
        Calls.due("N0 and N9", Calls.put(nine, "N0N9").week(), 2);
        Calls.due("NIGHT", nine.count(1), 39);
    }

    private static void weekThatGetsStuck() {
        Calls.promise("14 week");
        TypeAtNight x = Calls.with(FOUR);
        Calls.due("week that gets stuck", Calls.put(x, "S+1aC09N9").week(), 1);
        Calls.row("week that gets stuck", x, 1, 1);
        Calls.due("no NIGHT behind it", x.count(1), 0);
        Calls.due("it can be undone", x.count(8), 1);
        String[] stuck = {"S+1d", "M990", "M000", "C03", "C99", "F00", "F04", "S+1aaaN1"};
        for (String acts : stuck) {
            TypeAtNight y = Calls.with(FOUR);
            Calls.due("week of " + acts, Calls.put(y, acts).week(), 0);
            Calls.row("week of " + acts, y, 1, 0);
            Calls.due("nothing to undo behind " + acts, y.count(8), 0);
            Calls.due("NIGHT behind " + acts, y.count(1), 0);
        }
        TypeAtNight y = Calls.with(FOUR);
        Calls.put(y, "b").sets(0);
        Calls.due("week of nothing", Calls.put(y, "").week(), 0);
        Calls.row("week of nothing", y, 0, 1);
        Calls.due("nothing more to undo", y.count(8), 1);
        Calls.due("week that moves one that is STANDING", Calls.put(y, "M021").week(), 0);
        Calls.due("week of N0", Calls.put(y, "N0").week(), 1);
        Calls.due("one ACT was done", y.count(8), 2);
    }

    private static void weekThatCantStand() {
        Calls.promise("14 week");
        Supplier<TypeAtNight> four = () -> Calls.with(FOUR);
        String[] texts = {"x", "n1", "N", "Nx", "N1;", "N1x", "N10", "S", "S2", "S+", "S+a", "S+2", "S+2i", "S+2N",
            "S+2a;", "S+2a1", "M", "M0", "M01", "M018", "M0a", "M015a", "C", "C0", "C0a", "C00a", "F", "F0", "Fa0",
            "F000", "S+1" + "a".repeat(13), "N1S+1" + "a".repeat(12) + "h", "N1".repeat(29) + "N", "a", "+", " N1"};
        long[] faults = {0, 0, 1, 1, 2, 2, 2, 1, 1, 2, 2, 3, 3, 3,
            4, 4, 1, 2, 3, 3, 2, 4, 1, 2, 2, 3, 1, 2, 1,
            3, 15, 17, 59, 0, 0, 0};
        for (int j = 0; j < texts.length; j++) {
            Calls.refused("week", four, texts[j], TypeAtNight::week, -1 - faults[j]);
        }
        Calls.refused("week of 61", four, "N1".repeat(30) + "N", TypeAtNight::week, -61);
        Calls.refused("week of 61, wrong at 60", four, "N1".repeat(30) + "x", TypeAtNight::week, -61);
        Calls.refused("week of 80", four, "N1".repeat(40), TypeAtNight::week, -61);
        Calls.refused("week of 61, an ACT open at 60", four, "N1".repeat(28) + "S+1ab", TypeAtNight::week, -61);
        Calls.refused("week of 62, an ACT open at 60", four, "N1".repeat(29) + "M015", TypeAtNight::week, -61);
        Calls.refused("week of 61, wrong at 59", four, "N1".repeat(29) + "Nxx", TypeAtNight::week, -60);
        Calls.refused("week, wrong behind what could be done", four, "S+2abN1x", TypeAtNight::week, -8);
    }

    private static void undo() {
        Calls.promise("15 undo");
        TypeAtNight x = Calls.with(FOUR);
        String[] states = new String[7];
        for (int j = 0; j < 6; j++) {
            states[j] = Calls.undoable(x);
            act(x, j);
        }
        Calls.due("what can be undone", x.count(8), 6);
        for (int j = 5; j >= 0; j--) {
            Calls.due("undo of " + j, x.undo(), j);
            Calls.due("state behind undo of " + j, Calls.undoable(x), states[j]);
        }
        Calls.refused("undo of none", () -> Calls.with(FOUR), TypeAtNight::undo, -1);
    }

    private static void act(TypeAtNight x, int which) {
        switch (which) {
            case 0: Calls.put(x, "ac").sets(3); break;
            case 1: x.nights(2); break;
            case 2: x.moves(1, 4); break;
            case 3: x.cleans(0); break;
            case 4: x.casts(3); break;
            default: Calls.put(x, "S-2bN3S+9a").week(); break;
        }
    }

    private static void undoOfTwelve() {
        Calls.promise("15 undo");
        TypeAtNight x = Calls.with(FOUR);
        for (int j = 1; j <= 15; j++) {
            Calls.due("moves", x.moves(0, j % 8), 10 + (j - 1) % 8);
            Calls.due("what can be undone", x.count(8), Math.min(12, j));
        }
        for (int j = 15; j > 3; j--) {
            Calls.due("BOX ahead of undo", x.sort(0, 3), j % 8);
            Calls.due("undo", x.undo(), j - 4);
        }
        Calls.due("BOX behind twelve undos", x.sort(0, 3), 3);
        Calls.due("undo of none", x.undo(), -1);
        Calls.due("moves", x.moves(0, 5), 13);
        Calls.due("undo", x.undo(), 0);
        Calls.due("BOX", x.sort(0, 3), 3);
    }

    private static void undoForgotten() {
        Calls.promise("15 undo");
        TypeAtNight x = Calls.with(FOUR);
        x.cleans(0);
        x.cleans(1);
        Calls.put(x, "").sorts();
        Calls.due("an empty sorts() does not forget", x.count(8), 2);
        Calls.put(x, "x").sorts();
        Calls.due("a refused sorts() does not forget", x.count(8), 2);
        x.again(0);
        Calls.due("a refused again() does not forget", x.count(8), 2);
        Calls.put(x, "5").rule();
        x.heard(0, 0);
        x.saw(0, 0, 0);
        x.keep(0);
        x.years(7, 20);
        x.sheet(2, 4, 1, 0);
        Calls.put(x, "").week();
        x.moves(0, 0);
        x.nights(0);
        Calls.due("others are not kept", x.count(8), 2);
        Calls.due("undo", x.undo(), 1);
        Calls.due("THE RULE is not undone", x.sort(0, 5), 15);
        Calls.due("nor what was heard", x.count(6), 1);
        Calls.due("nor what was seen", x.count(7), 1);
        Calls.due("again", x.again(0), true);
        Calls.due("again() forgets", x.count(8), 0);
        x.cleans(2);
        Calls.put(x, "h0+0").sorts();
        Calls.due("sorts() forgets", x.count(8), 0);
        Calls.due("undo of none", x.undo(), -1);
        Calls.due("MOOD stays", x.sort(2, 2), 10);
    }
}
