import java.util.function.Supplier;
import java.util.function.ToIntFunction;

/** Edges that promises 1 to 8 name. */
final class EdgesOfSorts {
    private static final String TWELVE = "a0+0" + ";a0+0".repeat(11);
    private static final Supplier<TypeAtNight> NONE = TypeAtNight::new;
    private static final ToIntFunction<TypeAtNight> SORTS = TypeAtNight::sorts;
    private static final ToIntFunction<TypeAtNight> RULE = TypeAtNight::rule;

    private EdgesOfSorts() {
    }

    static void all(Document doc) {
        newObject(doc);
        sign(doc);
        end(doc);
        noLines(doc);
        linesThatCantStand(doc);
        nothingComes(doc);
        noRule(doc);
        rulesThatCantStand(doc);
        rulesTooLong(doc);
        sort(doc);
        box(doc);
        entries(doc);
        fewAndManyEntries(doc);
        sheetUndone(doc);
        sheetBelowNone(doc);
        sheetMissing(doc);
        sheetRefused(doc);
    }

    /** So many SORTS, with THE RULE "7" and something to be undone, where there is one. */
    private static Supplier<TypeAtNight> having(int sorts) {
        return () -> {
            TypeAtNight x = Calls.with(TWELVE.substring(0, Math.max(0, 5 * sorts - 1)), "7");
            x.moves(0, 5);
            return x;
        };
    }

    private static void newObject(Document doc) {
        doc.promise(1, "No SORTS.");
        TypeAtNight x = new TypeAtNight();
        Calls.due("SORTS", x.count(0), 0);
        Calls.noSuch("sort(0, 0)", () -> x.sort(0, 0));
        for (int box = 0; box <= 7; box++) {
            Calls.due("SORTS of BOX " + box, x.box(box, 0), 0);
        }
        for (int what = 1; what <= 10; what++) {
            Calls.due("count(" + what + ")", x.count(what), what == 4 ? 200 : 0);
        }
    }

    private static void sign(Document doc) {
        doc.promise(2, "Four signs come behind THE TEXT, of v the highest byte first: how many it has. Refused: "
                + "there would be more than 80.");
        TypeAtNight x = Calls.with("a0+0;b0+0;c0+0;d0+0");
        for (int n = 4; n <= 80; n += 4) {
            Calls.due("sign", x.sign(0x61626364), n);
        }
        Calls.due("sign of 84", x.sign(0x64636261), -1);
        for (int n = 79; n > 76; n--) {
            x.end(n);
            Calls.due("sign behind " + n, x.sign(0x64636261), -1);
            Calls.due("signs then", x.count(10), n);
        }
        x.end(76);
        Calls.due("sign behind 76", x.sign(0x64636261), 80);
        x.end(4);
        Calls.due("the first four are as they were", x.sets(0), 15);
        Calls.due("sign of the least int", x.sign(Integer.MIN_VALUE), 4);
        Calls.due("sets of a sign 128", x.sets(0), -1);
        x.nights(1);
        x.sign(0x6163ff64);
        x.end(2);
        Calls.due("of v the highest byte first", x.sets(0), 5);
    }

    private static void end(Document doc) {
        doc.promise(3, "THE TEXT has its first n signs alone: true; false if it has not so many, or n is below 0.");
        TypeAtNight x = Calls.with("a0+0;b0+0;c0+0;d0+0");
        Calls.due("end(0) of none", x.end(0), true);
        Calls.due("end(1) of none", x.end(1), false);
        Calls.due("end(-1) of none", x.end(-1), false);
        x.sign(0x61626364);
        for (int n : new int[] {5, 80, 81, Integer.MAX_VALUE, -1, Integer.MIN_VALUE}) {
            Calls.due("end(" + n + ")", x.end(n), false);
            Calls.due("signs then", x.count(10), 4);
        }
        Calls.due("end(4)", x.end(4), true);
        Calls.due("signs then", x.count(10), 4);
        Calls.due("end(2)", x.end(2), true);
        Calls.due("end(3)", x.end(3), false);
        Calls.due("the first two alone", x.sets(0), 3);
        Calls.due("end(1) of what was read", x.end(1), false);
    }

    private static void noLines(Document doc) {
        doc.promise(4, "THE TEXT tells of SORTS (an empty one: nothing): how many LINES.");
        for (int sorts : new int[] {0, 1, 12}) {
            Calls.refused("sorts with " + sorts, having(sorts), "", SORTS, 0);
        }
        Calls.due("one LINE", Calls.put(new TypeAtNight(), "h9-9").sorts(), 1);
        Calls.due("twelve LINES", Calls.put(new TypeAtNight(), TWELVE).sorts(), 12);
    }

    private static void linesThatCantStand(Document doc) {
        doc.promise(4, "-1 - p: the sign at p can't stand there (its end, if it ends too early; 59, if it has more "
                + "and the first 59 could go on or end; the first sign of a LINE for which there is no room).");
        Calls.faults("sorts that end too early", NONE, SORTS, -1, "a", 1, "a0", 2, "a0+", 3, "a0+0;", 5, "a0+0;a", 6,
                TWELVE.substring(0, 58), 58, TWELVE.substring(0, 55), 55);
        Calls.faults("sorts", NONE, SORTS, -1, "0", 0, ";", 0, ";a0+0", 0, "aa", 1, "a+", 1, "a00", 2, "a0;", 2,
                "a0+a", 3, "a0++", 3, "a0+-", 3, "a0+00", 4, "a0+0a", 4, "a0+0;;", 5, "a0+0;0", 5);
        Calls.faults("sorts of more than 59", NONE, SORTS, -1, TWELVE + ";", 59, TWELVE + "x", 59, TWELVE + ";a0+0", 59,
                TWELVE + ";".repeat(21), 59, TWELVE.substring(0, 58) + "x0", 58,
                TWELVE.substring(0, 54) + ",a0+00", 54);
        Calls.faults("sorts with eleven", having(11), SORTS, -1, "a0+0;", 5, "a0+0;b0+0", 5, "a0+0;x", 5, "a0+0x", 4,
                "a0+x;b0+0", 3, TWELVE + ";", 5);
        Calls.faults("sorts with one", having(1), SORTS, -1, TWELVE, 55, TWELVE + ";", 55, TWELVE.substring(0, 55), 55);
        Calls.faults("sorts with twelve", having(12), SORTS, -1, "a0+0", 0, "x", 0, ";", 0, TWELVE + ";", 0);
        Calls.due("the twelfth", Calls.put(having(11).get(), "h0+0").sorts(), 1);
        Calls.due("eleven more", Calls.put(having(1).get(), TWELVE.substring(5)).sorts(), 11);
    }

    private static void nothingComes(Document doc) {
        doc.promise(4, "Nothing of it comes, if a LINE can't.");
        for (String text : new String[] {"b1+1;c2+2;d3+x", "b1+1;c2+2;", "b1+1;c2+2;d3", "b1+1;c2+2;" + TWELVE}) {
            TypeAtNight x = having(1).get();
            Calls.put(x, text).sorts();
            Calls.due("SORTS behind " + text, x.count(0), 1);
            Calls.due("what can be undone", x.count(8), 1);
            Calls.put(x, "h4-4").sorts();
            Calls.due("the next one is 1", x.sort(1, 0), 7);
        }
    }

    private static void noRule(Document doc) {
        doc.promise(5, "THE TEXT is THE RULE (an empty one: none): 0.");
        TypeAtNight x = Calls.with("a0+9;a0-4;b0+5", "7");
        Calls.due("rule, empty", Calls.put(x, "").rule(), 0);
        Calls.each("TURN by none", x, 5, 4, 16, 8);
        Calls.due("rule, empty again", x.rule(), 0);
        Calls.each("TURN by none", x, 5, 4, 16, 8);
    }

    private static void rulesThatCantStand(Document doc) {
        doc.promise(5, "-1 - p: the sign at p can't stand there (its end, if it ends too early");
        Calls.faults("rule", having(2), RULE, -1, "-", 1, "(", 1, "m+", 2, "m<", 2, "(m", 2, "((m)", 4, "m*(", 3,
                "m/-", 3);
        Calls.faults("rule", having(2), RULE, -1, "+", 0, ")", 0, "x", 0, "\0", 0, "\u00ff", 0, "m\0", 1, "m)", 1,
                "m m", 1, "5m", 1, "m5", 1, "1234", 3, "m<w=l", 3, "(((((", 4);
    }

    private static void rulesTooLong(Document doc) {
        doc.promise(5, "40, if it has more and the first 40 could go on or end).");
        String full = "m" + "+m".repeat(19);
        String open = "((-" + full.substring(2);
        String forty = "-" + full;
        Calls.due("signs", forty.length(), 40);
        Calls.due("rule of forty", Calls.put(having(1).get(), forty).rule(), 0);
        Calls.faults("rule of more than 40 that could end", having(2), RULE, -1, forty + "m", 40, forty + "x", 40,
                forty + "+m", 40, forty + "+(", 40, forty + ")", 40, forty + "<<", 40, "-".repeat(37) + "1234", 40);
        for (int sign = 0; sign < 256; sign++) {
            Calls.faults("rule of more than 40, by each sign", having(2), RULE, -1, forty + (char) sign, 40,
                    forty + (char) sign + "m", 40, full + "+" + (char) sign + "m", 40);
        }
        Calls.faults("rule of more than 40 that could go on", having(2), RULE, -1, "-".repeat(40) + "(", 40,
                "-".repeat(40) + "((", 40, "-".repeat(40) + "m", 40, "-".repeat(80), 40, "(" + full + ")", 40,
                open + ")x", 40, open + "))", 40, full + "+((", 40, full + "++", 40);
        Calls.faults("rule of more than 40, wrong ahead of it", having(2), RULE, -1, full + "xx", 39, full + ")m", 39,
                "x" + forty, 0, "-".repeat(36) + "1234-", 39);
        Calls.faults("rule of forty that ends too early", having(2), RULE, -1, full + "+", 40, "-".repeat(40), 40,
                "(" + full, 40);
    }

    private static void sort(Document doc) {
        doc.promise(6, "NoSuchElementException: none such, another what.");
        for (int sorts : new int[] {0, 1, 11, 12}) {
            TypeAtNight x = having(sorts).get();
            for (int sort : new int[] {-1, sorts, 12, Integer.MIN_VALUE, Integer.MAX_VALUE}) {
                for (int what = 0; what <= 5; what++) {
                    int of = what;
                    Calls.noSuch("sort(" + sort + ", " + what + ") of " + sorts, () -> x.sort(sort, of));
                }
            }
            if (sorts > 0) {
                Calls.due("the last of " + sorts, x.sort(sorts - 1, 2), 10);
                for (int what : new int[] {-1, 6, Integer.MIN_VALUE, Integer.MAX_VALUE}) {
                    Calls.noSuch("sort(0, " + what + ")", () -> x.sort(0, what));
                }
            }
        }
        doc.promise(6, "Of a SORT, what 0: LETTER, 1: WEAR, 2: 10 and MOOD, 3: BOX, 4: 1 if STANDING, 5: 10 and TURN "
                + "now.");
        TypeAtNight x = Calls.with("h9-9;a0+9", "m*9");
        Calls.set(x, "h", 0);
        long[][] want = {{7, 9, 1, 7, 1, 1}, {0, 0, 19, 0, 0, 19}};
        for (int what = 0; what <= 5; what++) {
            Calls.each("the least and the greatest", x, what, want[0][what], want[1][what]);
        }
    }

    private static void box(Document doc) {
        doc.promise(7, "NoSuchElementException: none such, another what.");
        TypeAtNight x = having(12).get();
        for (int box : new int[] {-1, 8, Integer.MIN_VALUE, Integer.MAX_VALUE}) {
            Calls.noSuch("box(" + box + ", 0)", () -> x.box(box, 0));
            Calls.noSuch("box(" + box + ", 1)", () -> x.box(box, 1));
        }
        for (int what : new int[] {-1, 2, Integer.MIN_VALUE, Integer.MAX_VALUE}) {
            Calls.noSuch("box(0, " + what + ")", () -> x.box(0, what));
        }
        doc.promise(7, "Of a BOX, what 0: SORTS in it (bits), 1: 200 and their MOODS together.");
        Calls.due("an empty BOX", x.box(7, 0), 0);
        Calls.due("its MOODS", x.box(7, 1), 200);
        TypeAtNight full = Calls.with("h0-9" + ";h0-9".repeat(11));
        Calls.due("a BOX of all", full.box(7, 0), 4095);
        Calls.due("the least MOODS", full.box(7, 1), 200 - 108);
        TypeAtNight high = Calls.with("a0+9" + ";a0+9".repeat(11));
        Calls.due("the greatest MOODS", high.box(0, 1), 308);
    }

    private static void sheet(TypeAtNight x, int kind, int n, int f, int step, long... wears) {
        long sum = 0;
        for (long wear : wears) {
            sum += wear;
        }
        String call = "sheet(" + kind + ", " + n + ", " + f + ", " + step + ")";
        Calls.due(call, x.sheet(kind, n, f, step), sum);
        Calls.each(call, x, 1, wears);
    }

    private static void entries(Document doc) {
        doc.promise(8, "WEAR of SORTS 0, 1, .., as a sheet tells it: bytes (kind 0), shorts (1), ints (2) of n "
                + "entries f, f + step, .. (of bytes, shorts the lowest bits, with their sign; put to 0 .. 9)");
        TypeAtNight x = Calls.with("a5+0;b5+0;c5+0;d5+0");
        sheet(x, 2, 4, -1, 1, 0, 0, 1, 2);
        sheet(x, 2, 4, 8, 1, 8, 9, 9, 9);
        sheet(x, 2, 4, 10, -1, 9, 9, 8, 7);
        sheet(x, 0, 4, 126, 1, 9, 9, 0, 0);
        sheet(x, 0, 4, 254, 1, 0, 0, 0, 1);
        sheet(x, 0, 4, -253, 1, 3, 4, 5, 6);
        sheet(x, 0, 4, 3, 256, 3, 3, 3, 3);
        sheet(x, 1, 4, 126, 1, 9, 9, 9, 9);
        sheet(x, 1, 4, 32766, 1, 9, 9, 0, 0);
        sheet(x, 1, 4, 65534, 1, 0, 0, 0, 1);
        sheet(x, 1, 4, 3, 65536, 3, 3, 3, 3);
        sheet(x, 2, 4, 32766, 1, 9, 9, 9, 9);
        sheet(x, 2, 4, 3, 65536, 3, 9, 9, 9);
        sheet(x, 2, 4, Integer.MAX_VALUE - 1, 1, 9, 9, 0, 0);
        sheet(x, 2, 4, Integer.MIN_VALUE, -1, 0, 9, 9, 9);
        sheet(x, 2, 4, 1, Integer.MAX_VALUE, 1, 0, 0, 9);
        sheet(x, 0, 4, 1, Integer.MIN_VALUE, 1, 1, 1, 1);
    }

    private static void fewAndManyEntries(Document doc) {
        doc.promise(8, "or a missing one (3): those behind it have 0: the sum of all.");
        TypeAtNight x = Calls.with("a5+0;b5+0;c5+0");
        sheet(x, 2, 0, 7, 7, 0, 0, 0);
        sheet(x, 2, 3, 1, 1, 1, 2, 3);
        sheet(x, 2, 1, 4, 1, 4, 0, 0);
        sheet(x, 2, 2, 4, 1, 4, 5, 0);
        sheet(x, 2, 12, 4, 1, 4, 5, 6);
        TypeAtNight twelve = Calls.with(TWELVE);
        sheet(twelve, 2, 12, 9, 0, 9, 9, 9, 9, 9, 9, 9, 9, 9, 9, 9, 9);
        sheet(twelve, 2, 11, 9, 0, 9, 9, 9, 9, 9, 9, 9, 9, 9, 9, 9, 0);
        sheet(twelve, 2, 0, 9, 0, 0, 0, 0, 0, 0, 0, 0, 0, 0, 0, 0, 0);
        TypeAtNight none = new TypeAtNight();
        sheet(none, 2, 12, 9, 0);
        Calls.put(none, "a3+0").sorts();
        Calls.due("one that comes behind it", none.sort(0, 1), 3);
    }

    private static void sheetUndone(Document doc) {
        doc.promise(8, "Nothing is kept of it that could be undone (an undo() behind it brings WEAR back, too, as it "
                + "was ahead of what is undone).");
        TypeAtNight x = Calls.with("a5+0;b6+0");
        sheet(x, 2, 2, 1, 1, 1, 2);
        Calls.due("nothing to undo", x.undo(), -1);
        x.moves(0, 7);
        sheet(x, 2, 2, 8, 0, 8, 8);
        Calls.due("what can be undone", x.count(8), 1);
        Calls.due("undo", x.undo(), 0);
        Calls.each("WEAR as it was ahead of moves", x, 1, 1, 2);
        x.moves(0, 7);
        x.sheet(3, 0, 0, 0);
        Calls.due("undo behind a missing one", x.undo(), 0);
        Calls.each("WEAR as it was ahead of moves", x, 1, 1, 2);
    }

    private static void sheetBelowNone(Document doc) {
        doc.promise(8, "-2: n below 0 (of kinds 0 .. 2; nothing changes)");
        Supplier<TypeAtNight> three = () -> Calls.with("a5+0;b6+0;c7+0");
        for (int kind = 0; kind <= 2; kind++) {
            int of = kind;
            Calls.refused("sheet(" + kind + ", -1)", three, x -> x.sheet(of, -1, 1, 1), -2);
            Calls.refused("sheet(" + kind + ", least)", three, x -> x.sheet(of, Integer.MIN_VALUE, 1, 1), -2);
            Calls.due("sheet(" + kind + ", 0)", three.get().sheet(kind, 0, 1, 1), 0);
        }
    }

    private static void sheetMissing(Document doc) {
        doc.promise(8, "-3: missing (all 0).");
        for (int n : new int[] {Integer.MIN_VALUE, -1, 0, 1, 12}) {
            TypeAtNight x = Calls.with("a9+0" + ";a9+0".repeat(11));
            Calls.due("sheet(3, " + n + ")", x.sheet(3, n, 9, 0), -3);
            Calls.each("sheet(3, " + n + ")", x, 1, new long[12]);
        }
        Calls.due("sheet(3, 0) without SORTS", new TypeAtNight().sheet(3, 0, 0, 0), -3);
    }

    private static void sheetRefused(Document doc) {
        doc.promise(8, "NONE: another kind, n above 12 (these first).");
        Supplier<TypeAtNight> three = () -> Calls.with("a5+0;b6+0;c7+0");
        Calls.others("sheet of 1", three, "", (x, kind) -> x.sheet(kind, 1, 1, 1), 0, 3, -1);
        Calls.others("sheet of -1", three, "", (x, kind) -> x.sheet(kind, -1, 1, 1), 0, 3, -1);
        for (int kind = 0; kind <= 3; kind++) {
            int of = kind;
            Calls.refused("sheet(" + kind + ", 13)", three, x -> x.sheet(of, 13, 1, 1), -1);
            Calls.refused("sheet(" + kind + ", most)", three, x -> x.sheet(of, Integer.MAX_VALUE, 1, 1), -1);
        }
    }
}
