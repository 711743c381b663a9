import java.util.function.Supplier;

/** Promises 1 to 8: a new object, THE TEXT, SORTS, THE RULE, BOXES, a sheet. */
public final class SortsTest {
    private static final String FOUR = "a0+4;a2-2;b1+3;c9+0";
    private static final String TWELVE = "a0+0" + ";a0+0".repeat(11);

    public static void main(String[] args) {
        newObject();
        sign();
        end();
        sorts();
        sortsThatCantStand();
        sortsWithoutRoom();
        ruleValues();
        ruleThatCantStand();
        ruleTooLong();
        sort();
        box();
        sheet();
        sheetRefused();
        Calls.close("SortsTest");
    }

    private static void newObject() {
        Calls.promise("1 TypeAtNight");
        TypeAtNight x = new TypeAtNight();
        Calls.due("NONE", TypeAtNight.NONE, -1);
        long[] counts = {0, 0, 0, 0, 200, 0, 0, 0, 0, 0, 0, -1};
        for (int what = 0; what < counts.length; what++) {
            Calls.due("count(" + what + ")", x.count(what), counts[what]);
        }
        for (int box = 0; box < 8; box++) {
            Calls.due("box(" + box + ", 0)", x.box(box, 0), 0);
            Calls.due("box(" + box + ", 1)", x.box(box, 1), 200);
        }
        Calls.noSuch("sort(0, 0)", () -> x.sort(0, 0));
        Calls.noSuch("row(0)", () -> x.row(0));
        Calls.due("undo()", x.undo(), -1);
        Calls.due("again(0)", x.again(0), false);
        Calls.due("again(1)", x.again(1), false);
        Calls.due("fits()", x.fits(), 0);
        Calls.due("laws()", x.laws(), 30);
    }

    private static void sign() {
        Calls.promise("2 sign");
        TypeAtNight x = new TypeAtNight();
        Calls.due("sign a0+4", x.sign('a' << 24 | '0' << 16 | '+' << 8 | '4'), 4);
        Calls.due("sorts of it", x.sorts(), 1);
        Calls.due("letter", x.sort(0, 0), 0);
        Calls.due("mood", x.sort(0, 2), 14);
        for (int n = 4; n <= 80; n += 4) {
            Calls.due("sign, " + n, x.sign(-1), n);
        }
        Calls.due("sign of 84", x.sign(0x61626364), -1);
        Calls.due("signs then", x.count(10), 80);
        Calls.due("end(77)", x.end(77), true);
        Calls.due("sign of 81", x.sign(0x61626364), -1);
        Calls.due("signs then", x.count(10), 77);
        Calls.due("end(76)", x.end(76), true);
        Calls.due("sign of 80", x.sign(0x61626364), 80);
        TypeAtNight y = new TypeAtNight();
        y.sign(0xff616161);
        Calls.due("sets of a sign 255", y.sets(0), -1);
        y.sign(0x61ff6161);
        Calls.due("sets of a sign 255 behind a", y.sets(0), -2);
        y.sign(0x61610061);
        Calls.due("sets of a sign 0", y.sets(0), -3);
    }

    private static void end() {
        Calls.promise("3 end");
        TypeAtNight x = new TypeAtNight();
        Calls.due("end(0) of none", x.end(0), true);
        Calls.due("end(1) of none", x.end(1), false);
        Calls.due("end(-1) of none", x.end(-1), false);
        x.sign(0x61626364);
        Calls.due("end(5)", x.end(5), false);
        Calls.due("end(-1)", x.end(-1), false);
        Calls.due("end(least)", x.end(Integer.MIN_VALUE), false);
        Calls.due("end(most)", x.end(Integer.MAX_VALUE), false);
        Calls.due("signs then", x.count(10), 4);
        Calls.due("end(4)", x.end(4), true);
        Calls.due("signs then", x.count(10), 4);
        Calls.due("end(2)", x.end(2), true);
        Calls.due("signs then", x.count(10), 2);
        Calls.due("end(3)", x.end(3), false);
        Calls.due("sign behind two", x.sign('x' << 24), 6);
        Calls.due("sets: the first two are ab", x.sets(0), -3);
    }

    private static void sorts() {
        Calls.promise("4 sorts");
        TypeAtNight x = new TypeAtNight();
        Calls.due("sorts", Calls.put(x, "a0+4;h9-9;d5-0").sorts(), 3);
        Calls.due("signs then", x.count(10), 0);
        Calls.due("count(0)", x.count(0), 3);
        long[][] want = {{0, 0, 14, 0, 0}, {7, 9, 1, 7, 0}, {3, 5, 10, 3, 0}};
        same(x, want);
        Calls.due("one more", Calls.put(x, "b1+9").sorts(), 1);
        same(x, new long[][] {{0, 0, 14, 0, 0}, {7, 9, 1, 7, 0}, {3, 5, 10, 3, 0}, {1, 1, 19, 1, 0}});
        x.cleans(0);
        String ahead = Calls.state(x);
        Calls.due("sorts that are empty", Calls.put(x, "").sorts(), 0);
        Calls.due("state behind sorts that are empty", Calls.state(x), ahead);
        Calls.due("twelve", Calls.put(new TypeAtNight(), TWELVE).sorts(), 12);
        Calls.mark(x);
        String row = Calls.rowOf(x);
        Calls.put(x, "g1+1").sorts();
        Calls.due("the ROW stays", Calls.rowOf(x), row);
    }

    private static void same(TypeAtNight x, long[][] want) {
        for (int sort = 0; sort < want.length; sort++) {
            for (int what = 0; what < want[sort].length; what++) {
                Calls.due("sort(" + sort + ", " + what + ")", x.sort(sort, what), want[sort][what]);
            }
        }
    }

    private static void sortsThatCantStand() {
        Calls.promise("4 sorts");
        String good = "a0+4;h9-9";
        for (int p = 0; p < good.length(); p++) {
            TypeAtNight x = Calls.with(FOUR);
            for (char bad : new char[] {'x', '`', 'i', '/', ':', ',', '.', 0, 255}) {
                String spoilt = good.substring(0, p) + bad + good.substring(p + 1);
                Calls.due("sorts of " + spoilt, Calls.put(x, spoilt).sorts(), -1 - p);
            }
            if (p != 4 && p != 0) {
                Calls.due("sorts of " + good.substring(0, p), Calls.put(x, good.substring(0, p)).sorts(), -1 - p);
            }
            Calls.due("nothing of them came", x.count(0), 4);
        }
        Supplier<TypeAtNight> y = SortsTest::fourWithUndo;
        Calls.refused("sorts", y, "a0+4;h9-", TypeAtNight::sorts, -9);
        Calls.refused("sorts", y, "a0+4;", TypeAtNight::sorts, -6);
        Calls.refused("sorts", y, "a0+4;;", TypeAtNight::sorts, -6);
        Calls.refused("sorts", y, "a0+44", TypeAtNight::sorts, -5);
        Calls.refused("sorts", y, ";", TypeAtNight::sorts, -1);
        Calls.refused("sorts", y, "A0+4", TypeAtNight::sorts, -1);
    }

    private static TypeAtNight fourWithUndo() {
        TypeAtNight x = Calls.with(FOUR, "7");
        x.cleans(0);
        return x;
    }

    private static void sortsWithoutRoom() {
        Calls.promise("4 sorts");
        Supplier<TypeAtNight> none = TypeAtNight::new;
        Calls.refused("sorts", none, TWELVE + ";", TypeAtNight::sorts, -60);
        Calls.refused("sorts", none, TWELVE + ";a0+0", TypeAtNight::sorts, -60);
        Calls.refused("sorts", none, TWELVE + "x", TypeAtNight::sorts, -60);
        Calls.refused("sorts", none, TWELVE.substring(0, 58), TypeAtNight::sorts, -59);
        Calls.refused("sorts", none, TWELVE.substring(0, 58) + "x;", TypeAtNight::sorts, -59);
        Supplier<TypeAtNight> eleven = () -> Calls.with(TWELVE.substring(5));
        Calls.refused("sorts without room for two", eleven, "a0+0;b0+0", TypeAtNight::sorts, -6);
        Calls.refused("sorts without room for two", eleven, "a0+0;x", TypeAtNight::sorts, -6);
        Calls.refused("sorts without room for two", eleven, "a0+0;", TypeAtNight::sorts, -6);
        Calls.refused("sorts, a fault ahead of it", eleven, "a0+x;b0+0", TypeAtNight::sorts, -4);
        Calls.due("the twelfth", Calls.put(eleven.get(), "b0+0").sorts(), 1);
        Supplier<TypeAtNight> twelve = () -> Calls.with(TWELVE);
        Calls.refused("sorts without room", twelve, "b0+0", TypeAtNight::sorts, -1);
        Calls.refused("sorts without room", twelve, "x", TypeAtNight::sorts, -1);
        Calls.refused("sorts, empty, when it is full", twelve, "", TypeAtNight::sorts, 0);
        Calls.due("count(0)", twelve.get().count(0), 12);
    }

    private static long turn(TypeAtNight x, int sort, String rule) {
        Calls.put(x, rule);
        Calls.due("rule of " + rule, x.rule(), 0);
        return x.sort(sort, 5) - 10;
    }

    private static void ruleValues() {
        Calls.promise("5 rule");
        TypeAtNight x = Calls.with("b3+5;b1-4;b0+2;d7-1");
        String[] rules = {"m", "w", "l", "k", "b", "i", "n", "7-2-1", "8/2/2", "7-2*3", "9-7/2", "-7/2", "(0-7)/2",
            "7/-2", "7/0", "5/(m-5)", "0/0", "--m", "---m", "2*-3", "m--3", "1<2", "2<1", "2<2", "2>1", "1>2", "2>2",
            "2=2", "3=2", "1+1=2", "5>2+2", "1*2<3", "(1<2)+(3>2)", "2*(1<2)", "((((m))))", "999", "0-999", "10",
            "-10", "10/3*3", "3*10/4", "100/9/4", "999*999*999*3", "512*512*512*16/-1", "007", "(m)-(w)", "-(m-w)",
            "(b/k-m)/2", "m-(w-(l-(k-1)))", "2-3+4", "2*3-4*5/6", "-m<m", "-2*-3"};
        long[] want = {5, 3, 1, 2, -2, 0, 0, 4, 2, 1, 6, -3, -3,
            -3, 0, 0, 0, 5, -5, -6, 8, 1, 0, 0, 1, 0, 0,
            1, 0, 1, 1, 1, 2, 2, 5, 9, -9, 9,
            -9, 9, 7, 2, -9, -9, 7, 2, -2,
            -3, 2, 3, 3, 1, 6};
        for (int j = 0; j < rules.length; j++) {
            Calls.due("TURN by " + rules[j], turn(x, 0, rules[j]), want[j]);
        }
        Calls.due("i of the fourth", turn(x, 3, "i"), 3);
        Calls.due("k of one alone", turn(x, 3, "k"), 0);
        Calls.due("b of one alone", turn(x, 3, "b"), 0);
        Calls.due("b of the second", turn(x, 1, "b"), 7);
        x.nights(1);
        Calls.due("n behind a NIGHT", turn(x, 0, "n"), 1);
        x.nights(6);
        Calls.due("n behind seven NIGHTS", turn(x, 0, "n"), 0);
        x.nights(6);
        Calls.due("n behind thirteen NIGHTS", turn(x, 0, "n"), 6);
        TypeAtNight y = Calls.with(FOUR, "9");
        Calls.due("an empty one", Calls.put(y, "").rule(), 0);
        long[] first = {7, 13, 9, 10};
        for (int sort = 0; sort < 4; sort++) {
            Calls.due("TURN of " + sort + " by none", y.sort(sort, 5), first[sort]);
        }
    }

    private static void ruleThatCantStand() {
        Calls.promise("5 rule");
        String[] texts = {" m", "m m", "m+", "+m", "*m", "m*", "m*/w", "m+*w", "()", "(m", "m)", "(m))", "(((((m",
            "((((m)))", "m<w<l", "m=w+l>b", "(m<w<l)", "m<", "<m", "1000", "0001", "-", "m-", "a", "M", "12m", "m2",
            "2(m)", "(m)(w)", "m((w))", "(", "((", "(-", "m;", "m+(", "1+2=3=1", "m==w", "m<>w", "\0", "(m<w)>(l=k"};
        long[] faults = {0, 1, 2, 0, 0, 2, 2, 2, 1, 2, 1, 3, 4,
            8, 3, 5, 4, 2, 0, 3, 3, 1, 2, 0, 0, 2, 1,
            1, 3, 1, 1, 2, 2, 1, 3, 5, 2, 2, 0, 10};
        TypeAtNight x = Calls.with(FOUR, "7");
        for (int j = 0; j < texts.length; j++) {
            Calls.due("rule of " + texts[j], Calls.put(x, texts[j]).rule(), -1 - faults[j]);
            Calls.due("signs left", x.count(10), 0);
        }
        Calls.due("THE RULE is as it was", x.sort(0, 5), 17);
        Calls.refused("rule", SortsTest::fourWithUndo, "m<w<l", TypeAtNight::rule, -4);
        Calls.due("brackets behind a comparison", Calls.put(x, "(m<w)<l").rule(), 0);
        Calls.due("brackets behind a sign", Calls.put(x, "m<(w<l)").rule(), 0);
        Calls.due("four in one another, twice", Calls.put(x, "((((m))))+((((w))))").rule(), 0);
    }

    private static void ruleTooLong() {
        Calls.promise("5 rule");
        String odd = "m" + "+m".repeat(19);
        Supplier<TypeAtNight> four = SortsTest::fourWithUndo;
        Calls.refused("rule of 41", four, "--" + odd, TypeAtNight::rule, -41);
        Calls.refused("rule of 41, wrong at 40", four, "-" + odd + "?", TypeAtNight::rule, -41);
        Calls.refused("rule of 80", four, "-".repeat(79) + "m", TypeAtNight::rule, -41);
        Calls.refused("rule of 40 that ends too early", four, "m+".repeat(20), TypeAtNight::rule, -41);
        Calls.refused("rule of 42 that could go on", four, "m+".repeat(21), TypeAtNight::rule, -41);
        Calls.refused("rule of 41, wrong at 39", four, odd + "?+", TypeAtNight::rule, -40);
        Calls.refused("rule of 41, open at 40", four, "(" + odd + ")", TypeAtNight::rule, -41);
        TypeAtNight x = Calls.with(FOUR);
        Calls.due("rule of 39", Calls.put(x, odd).rule(), 0);
        Calls.due("rule of 40", Calls.put(x, "-" + odd).rule(), 0);
        Calls.due("rule of 40 signs ahead of m", Calls.put(x, "-".repeat(39) + "m").rule(), 0);
        Calls.due("TURN by it", x.sort(0, 5), 10 - 4);
    }

    private static void sort() {
        Calls.promise("6 sort");
        TypeAtNight x = Calls.with("a0+4;a0-2;h9-9");
        Calls.put(x, "ah").sets(0);
        x.moves(1, 6);
        long[][] want = {{0, 1, 14, 0, 1}, {0, 0, 8, 6, 0}, {7, 9, 1, 7, 1}};
        same(x, want);
        Calls.due("TURN of one alone", x.sort(0, 5), 8);
        x.moves(1, 0);
        Calls.due("TURN beside one that is STANDING", x.sort(1, 5), 13);
        Calls.due("TURN of one that is STANDING", x.sort(0, 5), 7);
        int[] numbers = {-1, 3, 12, Integer.MIN_VALUE, Integer.MAX_VALUE};
        for (int sort : numbers) {
            Calls.noSuch("sort(" + sort + ", 0)", () -> x.sort(sort, 0));
        }
        int[] whats = {-1, 6, Integer.MIN_VALUE, Integer.MAX_VALUE};
        for (int what : whats) {
            Calls.noSuch("sort(0, " + what + ")", () -> x.sort(0, what));
        }
    }

    private static void box() {
        Calls.promise("7 box");
        TypeAtNight x = Calls.with("a0+4;a0-2;h9-9;a0-9");
        Calls.due("box(0, 0)", x.box(0, 0), 11);
        Calls.due("box(0, 1)", x.box(0, 1), 193);
        Calls.due("box(7, 0)", x.box(7, 0), 4);
        Calls.due("box(7, 1)", x.box(7, 1), 191);
        Calls.due("box(3, 0)", x.box(3, 0), 0);
        Calls.put(x, "a").sets(3);
        Calls.due("STANDING ones are still in it", x.box(0, 0), 11);
        Calls.due("with their MOODS", x.box(0, 1), 196);
        x.moves(1, 7);
        Calls.due("box(7, 0)", x.box(7, 0), 6);
        Calls.due("box(7, 1)", x.box(7, 1), 189);
        int[] boxes = {-1, 8, Integer.MIN_VALUE, Integer.MAX_VALUE};
        for (int box : boxes) {
            Calls.noSuch("box(" + box + ", 0)", () -> x.box(box, 0));
        }
        int[] whats = {-1, 2, Integer.MIN_VALUE, Integer.MAX_VALUE};
        for (int what : whats) {
            Calls.noSuch("box(0, " + what + ")", () -> x.box(0, what));
        }
    }

    private static void wears(TypeAtNight x, long... want) {
        for (int sort = 0; sort < want.length; sort++) {
            Calls.due("WEAR of " + sort, x.sort(sort, 1), want[sort]);
        }
    }

    private static void sheet() {
        Calls.promise("8 sheet");
        TypeAtNight x = Calls.with("a5+0;b5+0;c5+0");
        Calls.mark(x);
        String row = Calls.rowOf(x);
        Calls.due("bytes 127 ..", x.sheet(0, 3, 127, 1), 9);
        wears(x, 9, 0, 0);
        Calls.due("shorts 32767 ..", x.sheet(1, 3, 32767, 1), 9);
        wears(x, 9, 0, 0);
        Calls.due("shorts 127 ..", x.sheet(1, 3, 127, 1), 27);
        Calls.due("ints ..", x.sheet(2, 3, Integer.MAX_VALUE, 1), 9);
        wears(x, 9, 0, 0);
        Calls.due("ints 32767 ..", x.sheet(2, 3, 32767, 1), 27);
        Calls.due("ints 7 8 9", x.sheet(2, 3, 7, 1), 24);
        wears(x, 7, 8, 9);
        Calls.due("ints 1 0 -1", x.sheet(2, 3, 1, -1), 1);
        Calls.due("one byte 261", x.sheet(0, 1, 261, 7), 5);
        wears(x, 5, 0, 0);
        Calls.due("shorts 65539 ..", x.sheet(1, 2, 65539, 2), 8);
        wears(x, 3, 5, 0);
        Calls.due("bytes -1", x.sheet(0, 3, 255, 0), 0);
        Calls.due("more entries than SORTS", x.sheet(2, 12, 1, 0), 3);
        wears(x, 1, 1, 1);
        Calls.due("no entries", x.sheet(2, 0, 9, 9), 0);
        wears(x, 0, 0, 0);
        Calls.due("the ROW stays", Calls.rowOf(x), row);
        Calls.due("nothing to undo", x.count(8), 0);
        x.sheet(2, 3, 4, 0);
        x.moves(0, 3);
        x.sheet(2, 3, 8, 0);
        Calls.due("undo behind it", x.undo(), 0);
        wears(x, 4, 4, 4);
        Calls.due("without SORTS", new TypeAtNight().sheet(2, 3, 4, 0), 0);
    }

    private static void sheetRefused() {
        Calls.promise("8 sheet");
        Supplier<TypeAtNight> three = () -> Calls.with("a5+0;b6+0;c7+0");
        for (int kind = 0; kind <= 2; kind++) {
            int of = kind;
            Calls.refused("sheet(" + kind + ", -1)", three, x -> x.sheet(of, -1, 1, 1), -2);
            Calls.refused("sheet(" + kind + ", 13)", three, x -> x.sheet(of, 13, 1, 1), -1);
        }
        Calls.refused("sheet(0, least)", three, x -> x.sheet(0, Integer.MIN_VALUE, 1, 1), -2);
        Calls.refused("sheet(3, 13)", three, x -> x.sheet(3, 13, 1, 1), -1);
        Calls.refused("sheet(4, 1)", three, x -> x.sheet(4, 1, 1, 1), -1);
        Calls.refused("sheet(-1, 1)", three, x -> x.sheet(-1, 1, 1, 1), -1);
        Calls.refused("sheet(4, -1)", three, x -> x.sheet(4, -1, 1, 1), -1);
        TypeAtNight y = three.get();
        Calls.mark(y);
        String row = Calls.rowOf(y);
        Calls.due("sheet(3, -1)", y.sheet(3, -1, 1, 1), -3);
        wears(y, 0, 0, 0);
        y.sheet(2, 3, 4, 0);
        Calls.due("sheet(3, 12)", y.sheet(3, 12, 1, 1), -3);
        wears(y, 0, 0, 0);
        Calls.due("the ROW stays", Calls.rowOf(y), row);
        Calls.due("nothing to undo", y.count(8), 0);
    }
}
