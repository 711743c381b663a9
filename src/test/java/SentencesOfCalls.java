import java.util.HashMap;
import java.util.Map;
import java.util.TreeSet;
import java.util.function.Supplier;

/** Sentences of the terms and the promises that name no edge: what a call is about. */
final class SentencesOfCalls {
    private static final String SIX_LINES = "a0+4;a2-2;a1+3;b1+3;b0-1;c9+0";
    private static final Supplier<TypeAtNight> SIX = () -> Calls.with(SIX_LINES);

    private SentencesOfCalls() {
    }

    static void all(Document doc) {
        bits(doc);
        night(doc);
        things(doc);
        cleans(doc);
        casts(doc);
        undo(doc);
        tells(doc);
        bears(doc);
        spans(doc);
        rubs(doc);
        heard(doc);
        asks(doc);
        looks(doc);
        galley(doc);
        rests(doc);
        law(doc);
    }

    private static void bits(Document doc) {
        doc.terms("Sets (of SORTS, LETTERS) are bits.");
        for (int sort = 0; sort < 12; sort++) {
            TypeAtNight x = Calls.with("b0+0;".repeat(sort) + "c0+0" + ";b0+0".repeat(11 - sort));
            Calls.due("the SORT that is c", Calls.put(x, "c").sets(0), 1 << sort);
            Calls.due("SORTS of BOX 2", x.box(2, 0), 1 << sort);
            Calls.due("which are STANDING", x.count(2), 1 << sort);
        }
        for (int letter = 0; letter < 8; letter++) {
            TypeAtNight x = SIX.get();
            Calls.put(x, "" + (char) ('a' + letter)).often();
            Calls.row("LETTERS that are not there for one more", x, 1 << letter);
        }
    }

    private static void night(Document doc) {
        doc.terms("A NIGHT goes by: (1) each that is STANDING is not any more");
        TypeAtNight x = Calls.set(SIX.get(), "abc", 2);
        Calls.put(x, "w").rule();
        x.moves(1, 4);
        x.nights(1);
        Calls.due("STANDING", x.count(2), 0);
        Calls.each("BOX", x, 3, 0, 4, 0, 1, 1, 3);
        Calls.each("MOOD, set and then turned by WEAR", x, 2, 17, 10, 14, 14, 12, 19);
        Calls.due("NIGHT", x.count(1), 1);
    }

    private static void things(Document doc) {
        doc.terms("things: a NUMBER");
        TypeAtNight x = SIX.get();
        for (String thing : new String[] {"7", "(7)", "m", "w", "l", "k", "b", "i", "n"}) {
            Calls.due("rule of " + thing, Calls.put(x, thing).rule(), 0);
            Calls.due("rule of -" + thing, Calls.put(x, "-" + thing).rule(), 0);
        }
        for (int sign = 0; sign < 256; sign++) {
            boolean thing = "0123456789mwlkbin".indexOf(sign) >= 0;
            Calls.due("rule of the sign " + sign, Calls.put(SIX.get(), "" + (char) sign).rule(),
                    thing ? 0 : sign == '(' || sign == '-' ? -2 : -1);
        }
    }

    private static void cleans(Document doc) {
        doc.promise(12, "A SORT is cleaned (MOOD is 0 then): 10 and MOOD that it had.");
        TypeAtNight x = Calls.set(SIX.get(), "a", 1);
        Calls.due("cleans(0), STANDING", x.cleans(0), 15);
        Calls.due("cleans(1)", x.cleans(1), 8);
        Calls.each("MOOD", x, 2, 10, 10, 13, 13, 9, 10);
        Calls.each("WEAR stays", x, 1, 1, 2, 1, 1, 0, 9);
        Calls.each("STANDING stays", x, 4, 1, 0, 0, 0, 0, 0);
    }

    private static void casts(Document doc) {
        doc.promise(13, "A SORT is cast anew (WEAR is 0 then): WEAR that it had.");
        TypeAtNight x = Calls.set(SIX.get(), "c", 1);
        Calls.due("casts(5), STANDING", x.casts(5), 9);
        Calls.due("casts(1)", x.casts(1), 2);
        Calls.each("WEAR", x, 1, 0, 0, 1, 1, 0, 0);
        Calls.each("MOOD stays", x, 2, 14, 8, 13, 13, 9, 11);
        Calls.each("STANDING stays", x, 4, 0, 0, 0, 0, 0, 1);
    }

    private static void undo(Document doc) {
        doc.promise(15, "The latest sets(), nights(), moves(), cleans(), casts(), week()");
        TypeAtNight x = SIX.get();
        String[] ahead = new String[6];
        for (int act = 0; act < 6; act++) {
            ahead[act] = Calls.undoable(x);
            switch (act) {
                case 0: Calls.put(x, "abc").sets(-2); break;
                case 1: x.nights(3); break;
                case 2: x.moves(1, 6); break;
                case 3: x.cleans(0); break;
                case 4: x.casts(3); break;
                default: Calls.put(x, "N1S+3aM037").week(); break;
            }
            Calls.due("something is other behind act " + act, Calls.undoable(x).equals(ahead[act]), false);
        }
        for (int act = 5; act >= 0; act--) {
            Calls.due("undo", x.undo(), act);
            Calls.due("as ahead of act " + act, Calls.undoable(x), ahead[act]);
        }
    }

    private static void tells(Document doc) {
        doc.promise(16, "What THE TEXT would tell, were it SET now:");
        for (String text : new String[] {"a", "aa", "aaa", "ab", "ba", "bab", "cabbaa"}) {
            for (String ahead : new String[] {"", "a", "b", "ab"}) {
                TypeAtNight x = ahead.isEmpty() ? SIX.get() : Calls.set(SIX.get(), ahead, 3);
                int told = Calls.put(x, text).tells();
                long would = told < 0 ? 0 : x.row(0);
                int taken = Calls.put(x, text).sets(0);
                Calls.due("tells " + text + " behind " + ahead, told, taken < 0 ? taken : x.row(0));
                Calls.due("SORTS of " + text + " behind " + ahead, would, Math.max(0, taken));
            }
        }
    }

    private static void bears(Document doc) {
        doc.promise(19, "By how many sets of SORTS that are not STANDING THE TEXT could be SET (as many of each LETTER as "
                + "it has)");
        // Of three a and two b: ways to choose, by what is not STANDING.
        bearsInAll("a", 3, 2);
        bearsInAll("aa", 3, 1);
        bearsInAll("ab", 6, 2);
        bearsInAll("baa", 6, 1);
        bearsInAll("aaab", 2, 0);
        bearsInAll("abbc", 3, 0);
    }

    private static void bearsInAll(String text, int ways, int waysLeft) {
        int all = 0;
        int left = 0;
        TypeAtNight x = SIX.get();
        TypeAtNight fewer = Calls.set(SIX.get(), "ab", 0);
        for (int v = -20; v <= 20; v++) {
            all += Calls.put(x, text).bears(v);
            left += Calls.put(fewer, text).bears(v);
        }
        Calls.due("sets for " + text, all, ways);
        Calls.due("sets for " + text + ", one a and one b STANDING", left, waysLeft);
    }

    private static void spans(Document doc) {
        doc.promise(20, "The least and the greatest that MOODS together can be of SORTS that are not STANDING by which THE "
                + "TEXT could be SET:");
        for (String text : new String[] {"a", "ab", "aba", "aab", "bb", "cab"}) {
            TypeAtNight x = Calls.set(SIX.get(), "b", 0);
            int least = 99;
            int greatest = -99;
            for (int v = -20; v <= 20; v++) {
                if (Calls.put(x, text).bears(v) > 0) {
                    least = Math.min(least, v);
                    greatest = v;
                }
            }
            Calls.due("spans " + text, Calls.put(x, text).spans(), least == 99 ? -101 : 200 + least);
            Calls.due("spans " + text + ", the greatest", least == 99 ? -99 : x.row(0) - 200, greatest);
        }
    }

    private static void rubs(Document doc) {
        doc.promise(29, "The two SORTS in one BOX whose MOODS are the farthest from each other:");
        TypeAtNight x = SIX.get();
        Calls.due("rubs: 0 and 1", x.rubs(), 6);
        Calls.row("rubs", x, 0, 1);
        x.moves(1, 1);
        Calls.due("rubs: 1 and 3, not 0 and 1", x.rubs(), 5);
        Calls.row("rubs", x, 1, 3);
        Calls.due("rubs of none", Calls.with("a0+9;b0-9").rubs(), -2);
    }

    private static void heard(Document doc) {
        doc.promise(31, "It was heard of a SORT that,");
        TypeAtNight x = Calls.set(SIX.get(), "b", 4);
        x.moves(2, 2);
        int[][] said = {{0, 0, 7}, {1, 1, 62}, {2, 1, 16}, {3, 2, 36}, {4, 3, 29}};
        for (int[] one : said) {
            Calls.due("heard(" + one[0] + ", " + one[1] + ")", x.heard(one[0], one[1]), 1);
            Calls.due("fits", x.fits(), one[2]);
            x.forget();
        }
        x.heard(0, 0);
        x.heard(1, 1);
        Calls.due("fits both", x.fits(), 6);
    }

    private static void asks(Document doc) {
        doc.promise(34, "What to ask next, so that, it is so or not,");
        int[] most = {7, 9, 1, 7, 9};
        for (int known = 0; known <= 2; known++) {
            int best = -1;
            int fewest = 99;
            for (int what = 0; what <= 4; what++) {
                for (int v = 0; v <= most[what]; v++) {
                    TypeAtNight x = knowing(known);
                    int all = Integer.bitCount(x.fits());
                    x.heard(what, v);
                    int so = Integer.bitCount(x.fits());
                    if (Math.max(so, all - so) < fewest) {
                        fewest = Math.max(so, all - so);
                        best = 10 * what + v;
                    }
                }
            }
            TypeAtNight x = knowing(known);
            Calls.due("asks, heard " + known, x.asks(), best);
            Calls.row("asks, heard " + known, x, fewest);
        }
    }

    private static TypeAtNight knowing(int known) {
        TypeAtNight x = Calls.set(SIX.get(), "ab", 1);
        for (int j = 0; j < known; j++) {
            x.heard(j == 0 ? 4 : 1, 1);
        }
        return x;
    }

    private static void looks(Document doc) {
        doc.promise(38, "The MOODS m, c to look at next,");
        int[][] seen = {{0, 3, 3}, {0, 9, 4}, {-2, 5, 9}};
        for (int[] one : seen) {
            int best = -1;
            int fewest = 99;
            for (int look = 0; look < 19 * 19; look++) {
                int left = lawsLeftAtMost(one, look / 19 - 9, look % 19 - 9);
                if (left < fewest) {
                    fewest = left;
                    best = look;
                }
            }
            TypeAtNight x = new TypeAtNight();
            x.saw(one[0], one[1], one[2]);
            Calls.due("looks", x.looks(), best);
            Calls.row("looks", x, fewest);
        }
    }

    private static int lawsLeftAtMost(int[] seen, int m, int c) {
        int most = 0;
        TypeAtNight x = new TypeAtNight();
        for (int u = -9; u <= 9; u++) {
            x.saw(seen[0], seen[1], seen[2]);
            x.saw(m, c, u);
            most = Math.max(most, x.laws());
            x.denies();
        }
        return most;
    }

    /** The game as it is told, letter by letter: no worths of rows. */
    private static void galley(Document doc) {
        doc.promise(40, "Boy and devil take by turns out of a galley of n (0 .. 60) letters in a row two that are beside "
                + "each other (others stay where they are), or the only one of a row of one; who takes the last has "
                + "won: 1 if the first one wins by best play, else 0;");
        Map<Integer, Boolean> won = new HashMap<>();
        for (int n = 0; n <= 18; n++) {
            int whole = (1 << n) - 1;
            TypeAtNight x = new TypeAtNight();
            Calls.due("galley(" + n + ")", x.galley(n), wins(whole, n, won) ? 1 : 0);
            int left = 0;
            while (left < n && !winsByTaking(whole, left, n, won)) {
                left++;
            }
            Calls.row("galley(" + n + ")", x, left < n ? new long[] {left} : new long[0]);
        }
    }

    private static boolean wins(int galley, int n, Map<Integer, Boolean> won) {
        Boolean known = won.get(galley);
        if (known == null) {
            known = false;
            for (int left = 0; left < n && !known; left++) {
                known = winsByTaking(galley, left, n, won);
            }
            won.put(galley, known);
        }
        return known;
    }

    /** Whether he wins who takes the letter that has so many places to its left, and with it the one beside it. */
    private static boolean winsByTaking(int galley, int left, int n, Map<Integer, Boolean> won) {
        int one = 1 << left;
        int two = one | one << 1;
        if ((galley & two) == two) {
            return !wins(galley & ~two, n, won);
        }
        boolean alone = (galley & two) == one && (galley & one >> 1) == 0;
        return alone && !wins(galley & ~one, n, won);
    }

    private static void rests(Document doc) {
        doc.promise(41, "Pairs by which neither would have more by another number alone: how many;");
        for (int v = 0; v <= 20; v++) {
            TreeSet<Integer> pairs = new TreeSet<>();
            for (int pair = 0; pair < 100; pair++) {
                if (best(v, pair % 10) == has(v, pair / 10, pair % 10)
                        && best(v, pair / 10) == has(v, pair % 10, pair / 10)) {
                    pairs.add(pair);
                }
            }
            TypeAtNight x = new TypeAtNight();
            Calls.due("rests(" + v + ")", x.rests(v), pairs.size());
            Calls.row("rests(" + v + ")", x,
                    pairs.isEmpty() ? new long[0] : new long[] {pairs.first() / 10, pairs.first() % 10});
        }
    }

    private static int has(int v, int own, int others) {
        int sells = v / 2;
        if (own > others) {
            sells = v;
        } else if (own == others) {
            sells = v * 2 / 3;
        }
        return own + others < 10 ? sells - own : sells - own - 1;
    }

    private static int best(int v, int others) {
        int best = has(v, 0, others);
        for (int own = 1; own <= 9; own++) {
            best = Math.max(best, has(v, own, others));
        }
        return best;
    }

    private static void law(Document doc) {
        doc.promise(42, "how far MOODS are from 0, all together,");
        String[] rules = {"", "m", "0-m/2", "b-k", "n-3", "w*l-i", "9"};
        for (String rule : rules) {
            for (String other : rules) {
                TypeAtNight x = Calls.with(SIX_LINES, rule);
                int far = farIn5(Calls.with(SIX_LINES, other));
                int farNow = farIn5(Calls.with(SIX_LINES, rule));
                Calls.due("law of " + other + " for " + rule, Calls.put(x, other).law(), far - farNow);
                Calls.due("far by " + other, x.row(0), far);
                Calls.due("far by " + rule, x.row(1), farNow);
            }
        }
    }

    private static int farIn5(TypeAtNight x) {
        x.nights(5);
        int far = 0;
        for (int sort = 0; sort < x.count(0); sort++) {
            far += Math.abs(x.sort(sort, 2) - 10);
        }
        return far;
    }
}
