import java.util.NoSuchElementException;
import java.util.Random;

/** Drawn runs of calls on the class and on the model of it: all answers and rows have to be the same. */
public final class ModelTest {
    private static final int RUNS = 700;
    /** An object answers for 512 calls; what later ones answer is free. */
    private static final int CALLS = 512;
    private static final long NO_SUCH = Long.MIN_VALUE;

    private final Random random;
    private final int run;
    private final TypeAtNight x = new TypeAtNight();
    private final Model model = new Model();
    private final String mostLetters;
    private final int mostBlown;
    private int calls = 0;
    private int wrong = 0;
    private final StringBuilder told = new StringBuilder();

    private ModelTest(int run) {
        this.run = run;
        random = new Random(run);
        // Few letters fill their boxes, many leave them alone: runs of both kinds.
        mostLetters = "abcdefgh".substring(0, 1 + random.nextInt(8));
        mostBlown = random.nextInt(5) == 0 ? 20 : 3;
    }

    public static void main(String[] args) {
        int wrong = 0;
        long calls = 0;
        for (int run = 0; run < RUNS && wrong < 10; run++) {
            ModelTest test = new ModelTest(run);
            test.go();
            wrong += test.wrong;
            calls += test.calls;
        }
        System.out.println("ModelTest: " + calls + " calls, " + wrong + " answers not as the model's");
        if (wrong != 0) {
            System.exit(1);
        }
    }

    private void go() {
        if (pick(4) > 0) {
            text(sorts());
            same("sorts()", x.sorts(), model.sorts());
        }
        while (calls < CALLS - 110 && wrong == 0) {
            step();
            sameRow();
        }
        sameState();
    }

    private int pick(int n) {
        return random.nextInt(n);
    }

    /** A number of a range, at times one beside it or far off. */
    private int near(int least, int most) {
        switch (pick(14)) {
            case 0: return least - 1;
            case 1: return most + 1;
            case 2: return least;
            case 3: return most;
            case 4: return pick(5) == 0 ? random.nextInt() : least;
            default: return least + pick(most - least + 1);
        }
    }

    private void same(String call, long got, long want) {
        calls++;
        told.append(call).append(" = ").append(got).append('\n');
        if (got != want) {
            wrong++;
            System.out.println("run " + run + ":\n" + told + "due is " + want);
        }
    }

    private void same(String call, boolean got, boolean want) {
        same(call, got ? 1 : 0, want ? 1 : 0);
    }

    private void sameRow() {
        same("count(9)", x.count(9), model.count(9));
        for (int i = 0; i < model.count(9); i++) {
            same("row(" + i + ")", rowOf(i), model.row(i));
        }
    }

    private long rowOf(int i) {
        try {
            return x.row(i);
        } catch (NoSuchElementException e) {
            return NO_SUCH;
        }
    }

    private void sameSort(int sort, int what) {
        long got = NO_SUCH;
        long want = NO_SUCH;
        try {
            got = x.sort(sort, what);
        } catch (NoSuchElementException e) {
            got = NO_SUCH;
        }
        try {
            want = model.sort(sort, what);
        } catch (NoSuchElementException e) {
            want = NO_SUCH;
        }
        same("sort(" + sort + ", " + what + ")", got, want);
    }

    private void sameBox(int box, int what) {
        long got = NO_SUCH;
        long want = NO_SUCH;
        try {
            got = x.box(box, what);
        } catch (NoSuchElementException e) {
            got = NO_SUCH;
        }
        try {
            want = model.box(box, what);
        } catch (NoSuchElementException e) {
            want = NO_SUCH;
        }
        same("box(" + box + ", " + what + ")", got, want);
    }

    private void sameState() {
        for (int what = 0; what <= 10; what++) {
            same("count(" + what + ")", x.count(what), model.count(what));
        }
        for (int sort = 0; sort < model.count(0); sort++) {
            for (int what = 0; what <= 5; what++) {
                sameSort(sort, what);
            }
        }
    }

    // ---- drawn texts

    private void text(String text) {
        same("end(0)", x.end(0), model.end(0));
        for (int i = 0; i < text.length(); i += 4) {
            int v = Calls.fourOf(text, i);
            same("sign(" + v + ")", x.sign(v), model.sign(v));
        }
        same("end(" + text.length() + ") of " + text, x.end(text.length()), model.end(text.length()));
    }

    /** A text as it should be, or, at times, with a sign that is another, missing or too many. */
    private String spoilt(String text) {
        String t = text;
        while (pick(6) == 0) {
            int at = pick(t.length() + 1);
            char sign = "abhi0189+-;()<>=*/mwlkbinNSMCFx?\0\u00ff".charAt(pick(34));
            switch (pick(3)) {
                case 0: t = t.substring(0, at) + sign + t.substring(at); break;
                case 1: t = t.substring(0, at); break;
                default: t = at < t.length() ? t.substring(0, at) + sign + t.substring(at + 1) : t; break;
            }
        }
        return t.length() > 80 ? t.substring(0, 80) : t;
    }

    private char letter() {
        return pick(40) == 0 ? (char) ('a' + pick(8)) : mostLetters.charAt(pick(mostLetters.length()));
    }

    private String letters(int most) {
        StringBuilder b = new StringBuilder();
        for (int n = 1 + pick(most); n > 0; n--) {
            b.append(letter());
        }
        return b.toString();
    }

    private String sorts() {
        StringBuilder b = new StringBuilder();
        int lines = pick(4) == 0 ? 12 : 1 + pick(8);
        for (int j = 0; j < lines; j++) {
            b.append(j == 0 ? "" : ";").append(letter()).append(pick(10)).append(pick(2) == 0 ? '+' : '-').append(pick(10));
        }
        return spoilt(pick(20) == 0 ? "" : b.toString());
    }

    private String thing(int depth) {
        String minus = pick(5) == 0 ? "-".repeat(1 + pick(3)) : "";
        int kind = pick(8);
        if (kind == 0 && depth < 4) {
            return minus + "(" + expression(depth + 1) + ")";
        }
        if (kind == 1 || kind == 2) {
            return minus + pick(pick(3) == 0 ? 1000 : 10);
        }
        return minus + "mwlkbinmb".charAt(pick(9));
    }

    private String expression(int depth) {
        StringBuilder b = new StringBuilder(thing(depth));
        boolean compared = false;
        while (pick(2) == 0) {
            char sign = "+-*/<>=".charAt(pick(compared ? 4 : 7));
            compared |= "<>=".indexOf(sign) >= 0;
            b.append(sign).append(thing(depth));
        }
        return b.toString();
    }

    private String rule() {
        switch (pick(12)) {
            case 0: return "";
            case 1: return "-".repeat(38 + pick(3)) + "m";
            case 2: return spoilt("(".repeat(3 + pick(3)) + "b-m" + ")".repeat(3 + pick(3)));
            case 3: return "m+".repeat(19) + (pick(2) == 0 ? "12" : "123");
            case 4: return "999*999*999*999*m*" + (pick(2) == 0 ? "b" : "w") + "/" + pick(10);
            case 5: return "(0-999*999*999*0-2147*999*999)/(-1)";
            default: return spoilt(expression(0));
        }
    }

    private String week() {
        StringBuilder b = new StringBuilder();
        while (pick(6) > 0 && b.length() < 70) {
            switch (pick(6)) {
                case 0: b.append('N').append(pick(10)); break;
                case 1: b.append('M').append(sortNumber()).append(pick(8)); break;
                case 2: b.append('C').append(sortNumber()); break;
                case 3: b.append('F').append(sortNumber()); break;
                default: b.append('S').append(pick(2) == 0 ? '+' : '-').append(pick(10)).append(letters(pick(12) == 0 ? 13 : 3)); break;
            }
        }
        return spoilt(b.toString());
    }

    private String sortNumber() {
        int n = pick(15) == 0 ? pick(100) : pick(Math.max(1, model.count(0)));
        return n / 10 + "" + n % 10;
    }

    private String words() {
        StringBuilder b = new StringBuilder(letters(4));
        for (int n = pick(9); n > 0; n--) {
            b.append(';').append(letters(pick(10) == 0 ? 20 : 3));
        }
        return spoilt(b.toString());
    }

    private String pairs() {
        StringBuilder b = new StringBuilder();
        int letters = 3 + pick(6);
        for (int n = pick(4) == 0 ? 20 + pick(2) : pick(16); n > 0; n--) {
            int one = pick(letters);
            int other = (one + 1 + pick(letters - 1)) % letters;
            b.append(b.length() == 0 ? "" : ";").append((char) ('a' + one)).append((char) ('a' + other));
        }
        return spoilt(b.toString());
    }

    private String toSet() {
        return spoilt(letters(pick(10) == 0 ? 14 : 4));
    }

    // ---- drawn calls

    private void step() {
        switch (pick(6)) {
            case 0: case 1: act(); break;
            case 2: change(); break;
            case 3: askText(); break;
            default: ask(); break;
        }
    }

    private void act() {
        int a = near(0, Math.max(0, model.count(0) - 1));
        int b = near(0, 7);
        switch (pick(9)) {
            case 0: case 1:
                text(toSet());
                int v = near(-9, 9);
                same("sets(" + v + ")", x.sets(v), model.sets(v));
                break;
            case 2:
                int n = pick(3) == 0 ? near(0, 60) : pick(3);
                same("nights(" + n + ")", x.nights(n), model.nights(n));
                break;
            case 3: case 4: same("moves(" + a + ", " + b + ")", x.moves(a, b), model.moves(a, b)); break;
            case 5: same("cleans(" + a + ")", x.cleans(a), model.cleans(a)); break;
            case 6: same("casts(" + a + ")", x.casts(a), model.casts(a)); break;
            case 7:
                text(week());
                same("week()", x.week(), model.week());
                break;
            default: same("undo()", x.undo(), model.undo()); break;
        }
    }

    private void change() {
        int i = near(0, 1);
        switch (pick(10)) {
            case 0: case 1:
                text(rule());
                same("rule()", x.rule(), model.rule());
                break;
            case 2:
                if (pick(3) == 0) {
                    text(sorts());
                    same("sorts()", x.sorts(), model.sorts());
                }
                break;
            case 3:
                int kind = near(0, 3);
                int n = near(0, 12);
                int f = pick(2) == 0 ? random.nextInt() : near(-3, 12);
                int step = pick(2) == 0 ? random.nextInt() : near(-2, 2);
                same("sheet(" + kind + ", " + n + ", " + f + ", " + step + ")",
                        x.sheet(kind, n, f, step), model.sheet(kind, n, f, step));
                break;
            case 4: same("keep(" + i + ")", x.keep(i), model.keep(i)); break;
            case 5: same("again(" + i + ")", x.again(i), model.again(i)); break;
            case 6:
                int what = near(0, 4);
                int v = near(0, 9);
                same("heard(" + what + ", " + v + ")", x.heard(what, v), model.heard(what, v));
                break;
            case 7:
                int m = near(-9, 9);
                int c = near(-9, 9);
                int u = pick(2) == 0 ? near(-9, 9) : Math.max(-9, Math.min(9, m + 2 * (c - m) / 3));
                same("saw(" + m + ", " + c + ", " + u + ")", x.saw(m, c, u), model.saw(m, c, u));
                break;
            case 8:
                if (pick(4) == 0) {
                    same("forget()", x.forget(), model.forget());
                } else {
                    int e = near(0, 12);
                    same("end(" + e + ")", x.end(e), model.end(e));
                }
                break;
            default:
                if (pick(4) == 0) {
                    same("denies()", x.denies(), model.denies());
                } else {
                    int s = random.nextInt();
                    same("sign(" + s + ")", x.sign(s), model.sign(s));
                }
                break;
        }
    }

    private void askText() {
        switch (pick(8)) {
            case 0: text(toSet()); same("tells()", x.tells(), model.tells()); break;
            case 1: text(toSet()); same("often()", x.often(), model.often()); break;
            case 2:
                text(toSet());
                int v = pick(4) == 0 ? near(-108, 108) : near(-15, 15);
                same("bears(" + v + ")", x.bears(v), model.bears(v));
                break;
            case 3: text(toSet()); same("spans()", x.spans(), model.spans()); break;
            case 4: text(words()); same("packs()", x.packs(), model.packs()); break;
            case 5: text(pairs()); same("parts()", x.parts(), model.parts()); break;
            case 6:
                text(toSet());
                int p = near(0, 10);
                same("reads(" + p + ")", x.reads(p), model.reads(p));
                break;
            default: text(rule()); same("law()", x.law(), model.law()); break;
        }
    }

    private void ask() {
        int a = near(0, Math.max(0, model.count(0) - 1));
        int n = near(0, 99);
        switch (pick(18)) {
            case 0: same("later(" + a + ", " + n + ")", x.later(a, n), model.later(a, n)); break;
            case 1: same("settles()", x.settles(), model.settles()); break;
            case 2: same("round()", x.round(), model.round()); break;
            case 3: same("gravest(" + n + ")", x.gravest(n), model.gravest(n)); break;
            case 4:
                int b = mostBlown == 20 && model.count(0) > 8 ? near(0, 3) : near(0, mostBlown);
                int v = near(0, 9);
                same("blows(" + b + ", " + v + ")", x.blows(b, v), model.blows(b, v));
                break;
            case 5: same("mixed()", x.mixed(), model.mixed()); break;
            case 6: same("rubs()", x.rubs(), model.rubs()); break;
            case 7:
                int c = pick(4) == 0 ? near(-72, 72) : near(-12, 12);
                same("chord(" + c + ")", x.chord(c), model.chord(c));
                break;
            case 8: same("fits()", x.fits(), model.fits()); break;
            case 9: same("asks()", x.asks(), model.asks()); break;
            case 10: same("laws()", x.laws(), model.laws()); break;
            case 11: same("looks()", x.looks(), model.looks()); break;
            case 12: int g = near(0, 60); same("galley(" + g + ")", x.galley(g), model.galley(g)); break;
            case 13: int r = near(0, 20); same("rests(" + r + ")", x.rests(r), model.rests(r)); break;
            case 14:
                int seed = random.nextInt();
                int times = near(1, 60);
                same("years(" + seed + ", " + times + ")", x.years(seed, times), model.years(seed, times));
                break;
            case 15: sameBox(near(0, 7), near(0, 1)); break;
            case 16: sameSort(a, near(0, 5)); break;
            default:
                same("shortest()", x.shortest(), model.shortest());
                int what = near(0, 10);
                same("count(" + what + ")", x.count(what), model.count(what));
                break;
        }
    }
}
