import java.math.BigInteger;
import java.util.ArrayDeque;
import java.util.ArrayList;
import java.util.Arrays;
import java.util.Deque;
import java.util.List;
import java.util.NoSuchElementException;
import java.util.TreeSet;
import java.util.function.Predicate;
import java.util.regex.Matcher;
import java.util.regex.Pattern;

/**
 * The same document a second time, as plainly as it can be said: texts are strings, grammars are
 * patterns, questions are answered by trying everything. Slow, and written apart from the class.
 */
final class Model {
    static final class Sort {
        int letter;
        int wear;
        int mood;
        int box;
        boolean standing;

        Sort copy() {
            Sort s = new Sort();
            s.letter = letter;
            s.wear = wear;
            s.mood = mood;
            s.box = box;
            s.standing = standing;
            return s;
        }
    }

    static final class World {
        final List<Sort> sorts = new ArrayList<>();
        int night;

        World copy() {
            World w = new World();
            for (Sort s : sorts) {
                w.sorts.add(s.copy());
            }
            w.night = night;
            return w;
        }

        int moods() {
            return sorts.stream().mapToInt(s -> s.mood).sum();
        }

        int home() {
            return (int) sorts.stream().filter(s -> s.box == s.letter).count();
        }

        String looks() {
            StringBuilder b = new StringBuilder();
            for (Sort s : sorts) {
                b.append(s.mood).append(',').append(s.box).append(',').append(s.standing).append(';');
            }
            return b.append(night % 7).toString();
        }

        String moodsTold() {
            StringBuilder b = new StringBuilder();
            for (Sort s : sorts) {
                b.append(s.mood).append(' ');
            }
            return b.toString();
        }
    }

    private static final String FIRST_RULE = "(b/k-m)/2";

    private World now = new World();
    private String rule = FIRST_RULE;
    private String text = "";
    private List<Long> row = new ArrayList<>();
    private final Deque<World> past = new ArrayDeque<>();
    private final World[] kept = new World[2];
    private final List<int[]> heard = new ArrayList<>();
    private final List<int[]> seen = new ArrayList<>();

    private static int put(int v) {
        return Math.max(-9, Math.min(9, v));
    }

    private void tell(long... numbers) {
        row = new ArrayList<>();
        for (long n : numbers) {
            row.add(n);
        }
    }

    private String take() {
        String t = text;
        text = "";
        return t;
    }

    // ---- grammars

    /** The first place that can't stand, or -1: a prefix can stand if it is whole or could go on. */
    private static int fault(String t, int limit, Predicate<String> whole, Predicate<String> goesOn) {
        for (int p = 0; p < Math.min(t.length(), limit); p++) {
            String prefix = t.substring(0, p + 1);
            if (!whole.test(prefix) && !goesOn.test(prefix)) {
                return p;
            }
        }
        if (t.length() > limit) {
            return limit;
        }
        return whole.test(t) ? -1 : t.length();
    }

    private static int fault(String t, int limit, Pattern pattern) {
        return fault(t, limit, s -> pattern.matcher(s).matches(), s -> {
            Matcher m = pattern.matcher(s);
            return !m.matches() && m.hitEnd();
        });
    }

    private static final String LINE = "[a-h][0-9][+-][0-9]";
    private static final Pattern LETTERS = Pattern.compile("[a-h]{1,12}");
    private static final Pattern WEEK =
            Pattern.compile("(N[0-9]|S[+-][0-9][a-h]{1,12}|M[0-9][0-9][0-7]|[CF][0-9][0-9])*");
    private static final Pattern RULE = Pattern.compile(expression(4));

    private static String expression(int depth) {
        String inner = depth == 0 ? "" : "|\\(" + expression(depth - 1) + "\\)";
        String thing = "-*([0-9]{1,3}|[mwlkbin]" + inner + ")";
        String joined = thing + "([-+*/]" + thing + ")*";
        return joined + "([<>=]" + joined + ")?";
    }

    private int faultOfSorts(String t) {
        if (t.isEmpty()) {
            return -1;
        }
        int room = 12 - now.sorts.size();
        if (room == 0) {
            return 0;
        }
        Pattern lines = Pattern.compile(LINE + "(;" + LINE + "){0," + (room - 1) + "}");
        Pattern full = Pattern.compile(LINE + "(;" + LINE + "){" + (room - 1) + "};");
        return fault(t, 59, s -> lines.matcher(s).matches(), s -> {
            Matcher m = lines.matcher(s);
            return !m.matches() && m.hitEnd() || full.matcher(s).matches();
        });
    }

    private static int faultOfRule(String t) {
        return t.isEmpty() ? -1 : fault(t, 40, RULE);
    }

    private static int faultOfWords(String t) {
        Pattern words = Pattern.compile("[a-h]+(;[a-h]+){0,7}");
        Pattern open = Pattern.compile("([a-h]+;){0,8}");
        return fault(t, 60, s -> words.matcher(s).matches(), s -> open.matcher(s).matches());
    }

    private static int faultOfPairs(String t) {
        if (t.isEmpty()) {
            return -1;
        }
        Pattern pairs = Pattern.compile("[a-h][a-h](;[a-h][a-h])*");
        Pattern open = Pattern.compile("([a-h][a-h];)*[a-h]?");
        Predicate<String> apart = s -> {
            for (int p = 1; p < s.length(); p += 3) {
                if (s.charAt(p) == s.charAt(p - 1)) {
                    return false;
                }
            }
            return true;
        };
        return fault(t, 59, s -> pairs.matcher(s).matches() && apart.test(s),
                s -> open.matcher(s).matches() && apart.test(s));
    }

    // ---- the rule, evaluated over its text

    private static int value(String e, int[] things) {
        int at = lastOf(e, "<>=");
        if (at < 0) {
            at = lastOf(e, "+-");
        }
        if (at < 0) {
            at = lastOf(e, "*/");
        }
        if (at >= 0) {
            int left = value(e.substring(0, at), things);
            int right = value(e.substring(at + 1), things);
            switch (e.charAt(at)) {
                case '<': return left < right ? 1 : 0;
                case '>': return left > right ? 1 : 0;
                case '=': return left == right ? 1 : 0;
                case '+': return left + right;
                case '-': return left - right;
                case '*': return left * right;
                default: return right == 0 ? 0 : left / right;
            }
        }
        if (e.charAt(0) == '-') {
            return -value(e.substring(1), things);
        }
        if (e.charAt(0) == '(') {
            return value(e.substring(1, e.length() - 1), things);
        }
        int thing = "mwlkbin".indexOf(e.charAt(0));
        return thing >= 0 ? things[thing] : Integer.parseInt(e);
    }

    /** The last of these signs that joins two things and is in no brackets. */
    private static int lastOf(String e, String signs) {
        int depth = 0;
        for (int p = e.length() - 1; p > 0; p--) {
            char c = e.charAt(p);
            depth += c == ')' ? 1 : c == '(' ? -1 : 0;
            boolean behindThing = "0123456789mwlkbin)".indexOf(e.charAt(p - 1)) >= 0;
            if (depth == 0 && signs.indexOf(c) >= 0 && behindThing) {
                return p;
            }
        }
        return -1;
    }

    private static int turn(World w, int i, String rule) {
        Sort s = w.sorts.get(i);
        int k = 0;
        int b = 0;
        for (int j = 0; j < w.sorts.size(); j++) {
            if (j != i && w.sorts.get(j).box == s.box) {
                k++;
                b += w.sorts.get(j).mood;
            }
        }
        return put(value(rule, new int[] {s.mood, s.wear, s.letter, k, b, i, w.night % 7}));
    }

    private static void night(World w, String rule) {
        for (Sort s : w.sorts) {
            if (s.standing) {
                s.standing = false;
                s.box = s.wear == 9 ? (s.letter == 7 ? 0 : s.letter + 1) : s.letter;
            }
        }
        int[] turns = new int[w.sorts.size()];
        for (int i = 0; i < turns.length; i++) {
            turns[i] = turn(w, i, rule);
        }
        for (int i = 0; i < turns.length; i++) {
            w.sorts.get(i).mood = put(w.sorts.get(i).mood + turns[i]);
        }
        w.night++;
    }

    private World in(int n, String byRule) {
        World w = now.copy();
        for (int j = 0; j < n; j++) {
            night(w, byRule);
        }
        return w;
    }

    /** The sorts taken, in order, and set; null if there are not enough. */
    private static List<Integer> set(World w, String letters, int feeling) {
        World tried = w.copy();
        List<Integer> taken = new ArrayList<>();
        for (char c : letters.toCharArray()) {
            int best = -1;
            for (int i = 0; i < tried.sorts.size(); i++) {
                Sort s = tried.sorts.get(i);
                if (s.letter == c - 'a' && !s.standing
                        && (best < 0 || s.wear < tried.sorts.get(best).wear)) {
                    best = i;
                }
            }
            if (best < 0) {
                return null;
            }
            Sort s = tried.sorts.get(best);
            s.standing = true;
            s.wear = Math.min(9, s.wear + 1);
            s.mood = put(s.mood + feeling);
            taken.add(best);
        }
        for (int i = 0; i < w.sorts.size(); i++) {
            w.sorts.set(i, tried.sorts.get(i));
        }
        return taken;
    }

    private static int bits(List<Integer> list) {
        int b = 0;
        for (int i : list) {
            b |= 1 << i;
        }
        return b;
    }

    private static int moodsOf(World w, List<Integer> list) {
        int sum = 0;
        for (int i : list) {
            sum += w.sorts.get(i).mood;
        }
        return sum;
    }

    private static List<Integer> listOf(int bits) {
        List<Integer> list = new ArrayList<>();
        for (int i = 0; i < 32; i++) {
            if ((bits >> i & 1) == 1) {
                list.add(i);
            }
        }
        return list;
    }

    private void remember(World w) {
        past.addLast(w);
        if (past.size() > 12) {
            past.removeFirst();
        }
    }

    // ---- the calls

    int sign(int v) {
        if (text.length() + 4 > 80) {
            return -1;
        }
        text += "" + (char) (v >>> 24) + (char) (v >>> 16 & 255) + (char) (v >>> 8 & 255) + (char) (v & 255);
        return text.length();
    }

    boolean end(int n) {
        if (n < 0 || n > text.length()) {
            return false;
        }
        text = text.substring(0, n);
        return true;
    }

    int sorts() {
        String t = take();
        int p = faultOfSorts(t);
        if (p >= 0) {
            return -1 - p;
        }
        if (t.isEmpty()) {
            return 0;
        }
        String[] lines = t.split(";");
        for (String line : lines) {
            Sort s = new Sort();
            s.letter = line.charAt(0) - 'a';
            s.box = s.letter;
            s.wear = line.charAt(1) - '0';
            s.mood = Integer.parseInt(line.substring(2));
            now.sorts.add(s);
        }
        past.clear();
        return lines.length;
    }

    int rule() {
        String t = take();
        int p = faultOfRule(t);
        if (p >= 0) {
            return -1 - p;
        }
        rule = t.isEmpty() ? FIRST_RULE : t;
        return 0;
    }

    int sort(int sort, int what) {
        if (sort < 0 || sort >= now.sorts.size() || what < 0 || what > 5) {
            throw new NoSuchElementException();
        }
        Sort s = now.sorts.get(sort);
        return new int[] {s.letter, s.wear, 10 + s.mood, s.box, s.standing ? 1 : 0, 10 + turn(now, sort, rule)}[what];
    }

    int box(int box, int what) {
        if (box < 0 || box > 7 || what < 0 || what > 1) {
            throw new NoSuchElementException();
        }
        List<Integer> in = new ArrayList<>();
        for (int i = 0; i < now.sorts.size(); i++) {
            if (now.sorts.get(i).box == box) {
                in.add(i);
            }
        }
        return what == 0 ? bits(in) : 200 + moodsOf(now, in);
    }

    int sheet(int kind, int n, int f, int step) {
        if (kind < 0 || kind > 3 || n > 12) {
            return -1;
        }
        if (kind == 3) {
            now.sorts.forEach(s -> s.wear = 0);
            return -3;
        }
        if (n < 0) {
            return -2;
        }
        int[] entries = new int[12];
        int entry = f;
        for (int i = 0; i < n; i++) {
            entries[i] = Math.max(0, Math.min(9, kind == 0 ? (byte) entry : kind == 1 ? (short) entry : entry));
            entry += step;
        }
        int sum = 0;
        for (int i = 0; i < now.sorts.size(); i++) {
            now.sorts.get(i).wear = entries[i];
            sum += entries[i];
        }
        return sum;
    }

    int sets(int v) {
        String t = take();
        int p = fault(t, 12, LETTERS);
        if (p >= 0) {
            return -1 - p;
        }
        if (v < -9 || v > 9) {
            return -100;
        }
        World ahead = now.copy();
        List<Integer> taken = set(now, t, v);
        if (taken == null) {
            return -101;
        }
        remember(ahead);
        tell(200 + moodsOf(ahead, taken), 200 + moodsOf(now, taken));
        return bits(taken);
    }

    int nights(int n) {
        if (n < 0 || n > 60) {
            return -1;
        }
        if (n > 0) {
            remember(now.copy());
        }
        now = in(n, rule);
        tell(200 + now.moods());
        return now.home();
    }

    private static int move(World w, int sort, int box) {
        if (sort < 0 || sort >= w.sorts.size() || box < 0 || box > 7) {
            return -1;
        }
        Sort s = w.sorts.get(sort);
        if (s.standing) {
            return -2;
        }
        if (s.box == box) {
            return -3;
        }
        int was = s.box;
        s.box = box;
        return 10 + was;
    }

    private static int clean(World w, int sort) {
        if (sort < 0 || sort >= w.sorts.size()) {
            return -1;
        }
        int was = w.sorts.get(sort).mood;
        if (was == 0) {
            return -2;
        }
        w.sorts.get(sort).mood = 0;
        return 10 + was;
    }

    private static int cast(World w, int sort) {
        if (sort < 0 || sort >= w.sorts.size()) {
            return -1;
        }
        int was = w.sorts.get(sort).wear;
        if (was == 0) {
            return -2;
        }
        w.sorts.get(sort).wear = 0;
        return was;
    }

    int moves(int sort, int box) {
        World ahead = now.copy();
        int answer = move(now, sort, box);
        if (answer >= 0) {
            remember(ahead);
        }
        return answer;
    }

    int cleans(int sort) {
        World ahead = now.copy();
        int answer = clean(now, sort);
        if (answer >= 0) {
            remember(ahead);
        }
        return answer;
    }

    int casts(int sort) {
        World ahead = now.copy();
        int answer = cast(now, sort);
        if (answer >= 0) {
            remember(ahead);
        }
        return answer;
    }

    int week() {
        String t = take();
        int p = fault(t, 60, WEEK);
        if (p >= 0) {
            return -1 - p;
        }
        World ahead = now.copy();
        Matcher acts = Pattern.compile("[NSMCF][^NSMCF]+").matcher(t);
        int done = 0;
        boolean stuck = false;
        while (!stuck && acts.find()) {
            if (act(acts.group())) {
                done++;
            } else {
                stuck = true;
            }
        }
        if (done > 0) {
            remember(ahead);
        }
        tell(stuck ? 1 : 0, now.sorts.stream().filter(s -> s.standing).count());
        return done;
    }

    private boolean act(String a) {
        switch (a.charAt(0)) {
            case 'N':
                now = in(Integer.parseInt(a.substring(1)), rule);
                return true;
            case 'S':
                return set(now, a.substring(3), Integer.parseInt(a.substring(1, 3))) != null;
            case 'M':
                return move(now, Integer.parseInt(a.substring(1, 3)), a.charAt(3) - '0') >= 0;
            case 'C':
                return clean(now, Integer.parseInt(a.substring(1))) >= 0;
            default:
                return cast(now, Integer.parseInt(a.substring(1))) >= 0;
        }
    }

    int undo() {
        if (past.isEmpty()) {
            return -1;
        }
        now = past.removeLast();
        return past.size();
    }

    int tells() {
        String t = take();
        int p = fault(t, 12, LETTERS);
        if (p >= 0) {
            return -1 - p;
        }
        List<Integer> taken = set(now.copy(), t, 0);
        if (taken == null) {
            return -101;
        }
        tell(bits(taken));
        return 200 + moodsOf(now, taken);
    }

    private int free(int letter) {
        return (int) now.sorts.stream().filter(s -> s.letter == letter && !s.standing).count();
    }

    int often() {
        String t = take();
        int p = fault(t, 12, LETTERS);
        if (p >= 0) {
            return -1 - p;
        }
        World w = now.copy();
        int times = 0;
        while (set(w, t, 0) != null) {
            times++;
        }
        World kept = now;
        now = w;
        int missing = 0;
        for (int l = 0; l < 8; l++) {
            char c = (char) ('a' + l);
            if (t.chars().filter(s -> s == c).count() > free(l)) {
                missing |= 1 << l;
            }
        }
        now = kept;
        tell(missing);
        return times;
    }

    int shortest() {
        int best = 0;
        for (int l = 7; l >= 0; l--) {
            if (free(l) <= free(best)) {
                best = l;
            }
        }
        int letter = best;
        tell(free(best), now.sorts.stream().filter(s -> s.letter == letter).count());
        return best;
    }

    private static String ordered(String t) {
        char[] signs = t.toCharArray();
        Arrays.sort(signs);
        return new String(signs);
    }

    /** All sets of sorts, in their order, by which a text could be set. */
    private List<Integer> setsFor(String t) {
        List<Integer> sets = new ArrayList<>();
        String want = ordered(t);
        for (int set = 0; set < 1 << now.sorts.size(); set++) {
            if (Integer.bitCount(set) != t.length()) {
                continue;
            }
            StringBuilder letters = new StringBuilder();
            for (int i : listOf(set)) {
                letters.append(now.sorts.get(i).standing ? '!' : (char) ('a' + now.sorts.get(i).letter));
            }
            if (ordered(letters.toString()).equals(want)) {
                sets.add(set);
            }
        }
        return sets;
    }

    int bears(int v) {
        String t = take();
        int p = fault(t, 12, LETTERS);
        if (p >= 0) {
            return -1 - p;
        }
        if (v < -108 || v > 108) {
            return -100;
        }
        List<Integer> ways = new ArrayList<>();
        for (int set : setsFor(t)) {
            if (moodsOf(now, listOf(set)) == v) {
                ways.add(set);
            }
        }
        if (ways.isEmpty()) {
            tell();
        } else {
            tell(ways.get(0));
        }
        return ways.size();
    }

    int spans() {
        String t = take();
        int p = fault(t, 12, LETTERS);
        if (p >= 0) {
            return -1 - p;
        }
        int least = 1000;
        int leastSet = 0;
        int greatest = -1000;
        int greatestSet = 0;
        for (int set : setsFor(t)) {
            int moods = moodsOf(now, listOf(set));
            if (moods < least) {
                least = moods;
                leastSet = set;
            }
            if (moods > greatest) {
                greatest = moods;
                greatestSet = set;
            }
        }
        if (least == 1000) {
            return -101;
        }
        tell(200 + greatest, leastSet, greatestSet);
        return 200 + least;
    }

    int packs() {
        String t = take();
        int p = faultOfWords(t);
        if (p >= 0) {
            return -1 - p;
        }
        String[] words = t.split(";");
        int best = 0;
        for (int set = 0; set < 1 << words.length; set++) {
            StringBuilder all = new StringBuilder();
            for (int w : listOf(set)) {
                all.append(words[w]);
            }
            if (Integer.bitCount(set) > Integer.bitCount(best) && set(now.copy(), all.toString(), 0) != null) {
                best = set;
            }
        }
        tell(best);
        return Integer.bitCount(best);
    }

    int later(int sort, int n) {
        if (sort < 0 || sort >= now.sorts.size() || n < 0 || n > 99) {
            return -1;
        }
        World w = in(n, rule);
        tell(w.sorts.get(sort).box, 200 + w.moods());
        return 10 + w.sorts.get(sort).mood;
    }

    private List<World> hundred() {
        List<World> worlds = new ArrayList<>();
        worlds.add(now.copy());
        for (int n = 1; n <= 99; n++) {
            World w = worlds.get(n - 1).copy();
            night(w, rule);
            worlds.add(w);
        }
        return worlds;
    }

    int settles() {
        List<World> worlds = hundred();
        for (int n = 0; n <= 96; n++) {
            String moods = worlds.get(n).moodsTold();
            if (moods.equals(worlds.get(n + 1).moodsTold()) && moods.equals(worlds.get(n + 2).moodsTold())
                    && moods.equals(worlds.get(n + 3).moodsTold())) {
                tell(200 + worlds.get(n).moods());
                return n;
            }
        }
        return -2;
    }

    int round() {
        List<World> worlds = hundred();
        for (int n = 1; n <= 99; n++) {
            for (int m = 0; m < n; m++) {
                if (worlds.get(n).looks().equals(worlds.get(m).looks())) {
                    tell(m);
                    return n;
                }
            }
        }
        return -2;
    }

    int gravest(int n) {
        if (n < 0 || n > 99) {
            return -1;
        }
        if (now.sorts.isEmpty()) {
            return -2;
        }
        World w = in(n, rule);
        int best = 0;
        for (int i = 0; i < w.sorts.size(); i++) {
            if (Math.abs(w.sorts.get(i).mood) > Math.abs(w.sorts.get(best).mood)) {
                best = i;
            }
        }
        tell(10 + w.sorts.get(best).mood, 10 + now.sorts.get(best).mood);
        return best;
    }

    int blows(int n, int v) {
        if (n < 0 || n > 20 || v < 0 || v > 9) {
            return -1;
        }
        World ahead = now;
        int best = -1;
        for (int set = 0; set < 1 << ahead.sorts.size(); set++) {
            if (best >= 0 && Integer.bitCount(set) >= Integer.bitCount(best)) {
                continue;
            }
            now = ahead.copy();
            for (int i : listOf(set)) {
                now.sorts.get(i).mood = 0;
            }
            if (in(n, rule).sorts.stream().allMatch(s -> Math.abs(s.mood) <= v)) {
                best = set;
            }
        }
        now = ahead;
        if (best < 0) {
            return -2;
        }
        tell(best);
        return Integer.bitCount(best);
    }

    int parts() {
        String t = take();
        int p = faultOfPairs(t);
        if (p >= 0) {
            return -1 - p;
        }
        String[] pairs = t.isEmpty() ? new String[0] : t.split(";");
        for (int boxes = 1; ; boxes++) {
            long rows = 1;
            for (int l = 0; l < 8; l++) {
                rows *= boxes;
            }
            for (long r = 0; r < rows; r++) {
                long[] place = new long[8];
                long rest = r;
                for (int l = 7; l >= 0; l--) {
                    place[l] = rest % boxes;
                    rest /= boxes;
                }
                if (Arrays.stream(pairs).noneMatch(q -> place[q.charAt(0) - 'a'] == place[q.charAt(1) - 'a'])) {
                    tell(place);
                    return boxes;
                }
            }
        }
    }

    int mixed() {
        int boxes = 0;
        for (int b = 0; b < 8; b++) {
            int box = b;
            if (now.sorts.stream().filter(s -> s.box == box).mapToInt(s -> s.letter).distinct().count() > 1) {
                boxes |= 1 << b;
            }
        }
        tell(boxes);
        return now.sorts.size() - now.home();
    }

    int rubs() {
        int best = -1;
        int one = 0;
        int other = 0;
        for (int i = 0; i < now.sorts.size(); i++) {
            for (int j = i + 1; j < now.sorts.size(); j++) {
                Sort s = now.sorts.get(i);
                Sort r = now.sorts.get(j);
                if (s.box == r.box && Math.abs(s.mood - r.mood) > best) {
                    best = Math.abs(s.mood - r.mood);
                    one = i;
                    other = j;
                }
            }
        }
        if (best < 0) {
            return -2;
        }
        tell(one, other);
        return best;
    }

    int chord(int v) {
        if (v < -72 || v > 72) {
            return -100;
        }
        int best = -1;
        for (int set = 0; set < 1 << now.sorts.size(); set++) {
            List<Integer> list = listOf(set);
            boolean fine = moodsOf(now, list) == v && list.stream().noneMatch(i -> now.sorts.get(i).standing)
                    && list.stream().map(i -> now.sorts.get(i).letter).distinct().count() == list.size();
            if (fine && (best < 0 || list.size() > Integer.bitCount(best))) {
                best = set;
            }
        }
        if (best < 0) {
            return -2;
        }
        tell(best);
        return Integer.bitCount(best);
    }

    private static boolean mayBeHeard(int what, int v) {
        int[] most = {7, 9, 1, 7, 9};
        return what >= 0 && what <= 4 && v >= 0 && v <= most[what];
    }

    private boolean isSo(int i, int what, int v) {
        Sort s = now.sorts.get(i);
        return what == 0 ? s.letter == v : what == 1 ? s.wear >= v : what == 2 ? s.standing == (v == 1)
                : what == 3 ? s.box == v : s.mood >= v;
    }

    int heard(int what, int v) {
        if (!mayBeHeard(what, v) || heard.size() == 12) {
            return -1;
        }
        heard.add(new int[] {what, v});
        return heard.size();
    }

    int forget() {
        int were = heard.size();
        heard.clear();
        return were;
    }

    private List<Integer> fitting() {
        List<Integer> list = new ArrayList<>();
        for (int i = 0; i < now.sorts.size(); i++) {
            int sort = i;
            if (heard.stream().allMatch(h -> isSo(sort, h[0], h[1]))) {
                list.add(i);
            }
        }
        return list;
    }

    int fits() {
        tell(fitting().size());
        return bits(fitting());
    }

    int asks() {
        List<Integer> fit = fitting();
        if (fit.isEmpty()) {
            return -2;
        }
        int best = -1;
        int fewest = 99;
        for (int q = 0; q < 50; q++) {
            int what = q / 10;
            int v = q % 10;
            if (mayBeHeard(what, v)) {
                int so = (int) fit.stream().filter(i -> isSo(i, what, v)).count();
                int left = Math.max(so, fit.size() - so);
                if (left < fewest) {
                    fewest = left;
                    best = q;
                }
            }
        }
        tell(fewest);
        return best;
    }

    int saw(int m, int c, int u) {
        if (put(m) != m || put(c) != c || put(u) != u || seen.size() == 10) {
            return -1;
        }
        seen.add(new int[] {m, c, u});
        return seen.size();
    }

    int denies() {
        int were = seen.size();
        seen.clear();
        return were;
    }

    private static int becomes(int[] law, int m, int c) {
        int far = law[0] * (c - m);
        int d = far < 0 ? -(-far / law[1]) : far / law[1];
        return put(m + d);
    }

    private List<int[]> lawsThatFit() {
        List<int[]> laws = new ArrayList<>();
        for (int a = 0; a <= 5; a++) {
            for (int b = 1; b <= 5; b++) {
                int[] law = {a, b};
                if (seen.stream().allMatch(s -> becomes(law, s[0], s[1]) == s[2])) {
                    laws.add(law);
                }
            }
        }
        return laws;
    }

    int laws() {
        List<int[]> laws = lawsThatFit();
        tell();
        if (!laws.isEmpty()) {
            tell(laws.get(0)[0], laws.get(0)[1]);
        }
        return laws.size();
    }

    int looks() {
        List<int[]> laws = lawsThatFit();
        if (laws.isEmpty()) {
            return -2;
        }
        int best = -1;
        int fewest = 99;
        for (int m = -9; m <= 9; m++) {
            for (int c = -9; c <= 9; c++) {
                int[] by = new int[19];
                for (int[] law : laws) {
                    by[becomes(law, m, c) + 9]++;
                }
                int left = Arrays.stream(by).max().getAsInt();
                if (left < fewest) {
                    fewest = left;
                    best = 19 * (9 + m) + 9 + c;
                }
            }
        }
        tell(fewest);
        return best;
    }

    int reads(int p) {
        String t = take();
        int fault = fault(t, 12, LETTERS);
        if (fault >= 0) {
            return -1 - fault;
        }
        if (p < 0 || p > 10) {
            return -100;
        }
        if (set(now.copy(), t, 0) == null) {
            return -101;
        }
        BigInteger upper = BigInteger.ZERO;
        for (int broken = 0; broken < 1 << t.length(); broken++) {
            int n = Integer.bitCount(broken);
            if (n <= 1) {
                upper = upper.add(BigInteger.valueOf(p).pow(n).multiply(BigInteger.valueOf(10 - p).pow(t.length() - n)));
            }
        }
        BigInteger lower = BigInteger.TEN.pow(t.length());
        BigInteger common = upper.gcd(lower);
        tell(upper.divide(common).longValueExact(), lower.divide(common).longValueExact());
        return 0;
    }

    private static int worth(int n, int[] memo) {
        if (n == 0) {
            return 0;
        }
        if (memo[n] == 0) {
            TreeSet<Integer> reached = new TreeSet<>();
            if (n == 1) {
                reached.add(0);
            }
            for (int left = 0; left <= n - 2; left++) {
                reached.add(worth(left, memo) ^ worth(n - 2 - left, memo));
            }
            int worth = 0;
            while (reached.contains(worth)) {
                worth++;
            }
            memo[n] = worth + 1;
        }
        return memo[n] - 1;
    }

    int galley(int n) {
        if (n < 0 || n > 60) {
            return -1;
        }
        int[] memo = new int[61];
        tell();
        if (n == 1) {
            tell(0);
            return 1;
        }
        for (int left = n - 2; left >= 0; left--) {
            if (worth(left, memo) == worth(n - 2 - left, memo)) {
                tell(left);
            }
        }
        return row.isEmpty() ? 0 : 1;
    }

    private static int gain(int v, int x, int y) {
        int sold = x == y ? 2 * v / 3 : x > y ? v : v / 2;
        return sold - x - (x + y >= 10 ? 1 : 0);
    }

    int rests(int v) {
        if (v < 0 || v > 20) {
            return -1;
        }
        List<int[]> pairs = new ArrayList<>();
        for (int x = 0; x < 10; x++) {
            for (int y = 0; y < 10; y++) {
                boolean rest = true;
                for (int z = 0; z < 10; z++) {
                    rest &= gain(v, z, y) <= gain(v, x, y) && gain(v, z, x) <= gain(v, y, x);
                }
                if (rest) {
                    pairs.add(new int[] {x, y});
                }
            }
        }
        tell();
        if (!pairs.isEmpty()) {
            tell(pairs.get(0)[0], pairs.get(0)[1]);
        }
        return pairs.size();
    }

    int law() {
        String t = take();
        int p = faultOfRule(t);
        if (p >= 0) {
            return -10000 - p;
        }
        World by = in(5, t.isEmpty() ? FIRST_RULE : t);
        int far = by.sorts.stream().mapToInt(s -> Math.abs(s.mood)).sum();
        int farNow = in(5, rule).sorts.stream().mapToInt(s -> Math.abs(s.mood)).sum();
        tell(far, farNow);
        by.sorts.forEach(s -> row.add(10L + s.mood));
        return far - farNow;
    }

    int years(int seed, int n) {
        if (n < 1 || n > 60) {
            return -1;
        }
        World w = now.copy();
        long[] r = {seed};
        for (int j = 0; j < n; j++) {
            int what = draw(r, 4);
            if (what <= 1) {
                night(w, rule);
            } else if (!w.sorts.isEmpty()) {
                int sort = draw(r, w.sorts.size());
                if (what == 2) {
                    w.sorts.get(sort).mood = draw(r, 19) - 9;
                } else {
                    move(w, sort, draw(r, 8));
                }
            }
        }
        tell(200 + w.moods());
        return w.home();
    }

    private static int draw(long[] r, int n) {
        r[0] = (r[0] * 1103515245L + 12345L) & 0xffffffffL;
        return (int) (r[0] / 65536 % n);
    }

    boolean keep(int i) {
        if (i < 0 || i > 1) {
            return false;
        }
        kept[i] = now.copy();
        return true;
    }

    boolean again(int i) {
        if (i < 0 || i > 1 || kept[i] == null || kept[i].sorts.size() < now.sorts.size()) {
            return false;
        }
        now = kept[i].copy();
        past.clear();
        return true;
    }

    int count(int what) {
        switch (what) {
            case 0: return now.sorts.size();
            case 1: return now.night;
            case 2:
                int standing = 0;
                for (int i = 0; i < now.sorts.size(); i++) {
                    standing |= now.sorts.get(i).standing ? 1 << i : 0;
                }
                return standing;
            case 3: return now.sorts.stream().mapToInt(s -> s.wear).sum();
            case 4: return 200 + now.moods();
            case 5: return now.home();
            case 6: return heard.size();
            case 7: return seen.size();
            case 8: return past.size();
            case 9: return row.size();
            case 10: return text.length();
            default: return -1;
        }
    }

    long row(int i) {
        if (i < 0 || i >= row.size()) {
            throw new NoSuchElementException();
        }
        return row.get(i);
    }
}
