import java.util.Arrays;
import java.util.NoSuchElementException;

/**
 * The type of a small printing house: sorts that take on the mood of the texts
 * they were set in, and mix in their boxes by night. What each call promises
 * stands in the project's document, by its number.
 */
public final class TypeAtNight {
    public static final int NONE = -1;

    private static final int LETTERS = 8;
    private static final int MOST_SORTS = 12;
    private static final int MOST_MOOD = 9;
    private static final int MOST_WEAR = 9;

    private static final int MOST_SIGNS = 80;
    private static final int MOST_SIGNS_OF_SORTS = 59;
    private static final int MOST_SIGNS_OF_RULE = 40;
    private static final int MOST_SIGNS_OF_WEEK = 60;
    private static final int MOST_SIGNS_OF_WORDS = 60;
    private static final int MOST_SIGNS_OF_PAIRS = 59;
    private static final int MOST_LETTERS_OF_TEXT = 12;

    private static final int MOST_NIGHTS = 60;
    private static final int MOST_NIGHTS_LATER = 99;
    private static final int MOST_NIGHTS_CLEANED = 20;
    private static final int NIGHTS_BY_LAW = 5;
    private static final int NIGHTS_AT_REST = 3;
    private static final int DAYS_OF_WEEK = 7;

    /** Moods and their sums are told with these added, so that no answer is below 0. */
    private static final int MOOD_TOLD = 10;
    private static final int MOODS_TOLD = 200;

    private static final int NO_SUCH = -2;
    private static final int STANDING = -2;
    private static final int NOUGHT_ALREADY = -2;
    private static final int THERE_ALREADY = -3;
    private static final int SHEET_BELOW_NONE = -2;
    private static final int SHEET_MISSING = -3;
    private static final int WRONG_VALUE = -100;
    private static final int TOO_FEW_SORTS = -101;
    private static final int WRONG_LAW = -10000;

    private final Text text = new Text();
    private final Numbers told = new Numbers();
    private final TypeCase now = new TypeCase();
    private final TypeCase then = new TypeCase();
    private final TypeCase trial = new TypeCase();
    private final TypeCase before = new TypeCase();
    private final Past past = new Past();
    private Rule ruling = new Rule();
    private Rule another = new Rule();
    private final Letters letters = new Letters();
    private final Words words = new Words();
    private final Boxing boxing = new Boxing();
    private final Hearsay hearsay = new Hearsay();
    private final Mixing mixing = new Mixing();
    private final Galley galleys = new Galley();
    private final long[] moodsBehind = new long[MOST_NIGHTS_LATER + 1];

    public TypeAtNight() {
    }

    // ---- sorts

    public int sign(int v) {
        return text.append(v);
    }

    public boolean end(int n) {
        return text.cut(n);
    }

    public int sorts() {
        int fault = faultOfLines();
        int lines = 0;
        if (fault == NONE) {
            lines = addLines();
        }
        text.clear();
        return fault == NONE ? lines : -1 - fault;
    }

    public int rule() {
        int fault = another.read(text);
        text.clear();
        if (fault != NONE) {
            return -1 - fault;
        }
        Rule former = ruling;
        ruling = another;
        another = former;
        return 0;
    }

    public int sort(int sort, int what) throws NoSuchElementException {
        if (!now.has(sort)) {
            throw new NoSuchElementException("no such sort");
        }
        switch (what) {
            case 0: return now.letter[sort];
            case 1: return now.wear[sort];
            case 2: return MOOD_TOLD + now.mood[sort];
            case 3: return now.box[sort];
            case 4: return (now.standing >> sort) & 1;
            case 5: return MOOD_TOLD + now.turnNow(ruling, sort);
            default: throw new NoSuchElementException("no such thing of a sort");
        }
    }

    public int box(int box, int what) throws NoSuchElementException {
        if (!isBox(box)) {
            throw new NoSuchElementException("no such box");
        }
        switch (what) {
            case 0: return now.inBox(box);
            case 1: return MOODS_TOLD + now.moodsOf(now.inBox(box));
            default: throw new NoSuchElementException("no such thing of a box");
        }
    }

    public int sheet(int kind, int n, int f, int step) {
        if (kind < 0 || kind > 3 || n > MOST_SORTS) {
            return NONE;
        }
        if (kind == 3) {
            Arrays.fill(now.wear, 0);
            return SHEET_MISSING;
        }
        if (n < 0) {
            return SHEET_BELOW_NONE;
        }
        for (int sort = 0; sort < now.size; sort++) {
            int entry = sort < n ? entryOf(kind, f + sort * step) : 0;
            now.wear[sort] = Math.max(0, Math.min(MOST_WEAR, entry));
        }
        return now.wearOfAll();
    }

    // ---- texts, nights

    public int sets(int v) {
        int fault = readLetters();
        if (fault != NONE) {
            return -1 - fault;
        }
        if (!isMood(v)) {
            return WRONG_VALUE;
        }
        int taken = now.wouldTake(letters);
        if (taken == NONE) {
            return TOO_FEW_SORTS;
        }
        past.push(now);
        int ahead = now.moodsOf(taken);
        now.setSorts(taken, v);
        told.tell(MOODS_TOLD + ahead, MOODS_TOLD + now.moodsOf(taken));
        return taken;
    }

    public int nights(int n) {
        if (n < 0 || n > MOST_NIGHTS) {
            return NONE;
        }
        if (n > 0) {
            past.push(now);
        }
        now.passNights(ruling, n, now.all());
        told.tell(MOODS_TOLD + now.moodsOfAll());
        return now.atHome();
    }

    public int moves(int sort, int box) {
        before.copy(now);
        return undoable(now.moveTo(sort, box));
    }

    public int cleans(int sort) {
        before.copy(now);
        return undoable(now.clean(sort));
    }

    public int casts(int sort) {
        before.copy(now);
        return undoable(now.castAnew(sort));
    }

    public int week() {
        int fault = faultOfWeek();
        if (fault != NONE) {
            text.clear();
            return -1 - fault;
        }
        before.copy(now);
        int done = 0;
        int at = 0;
        boolean stuck = false;
        for (int act = 0; act < MOST_SIGNS_OF_WEEK && at < text.size() && !stuck; act++) {
            int behind = behindAct(at, text.size());
            stuck = doAct(at, behind) < 0;
            done += stuck ? 0 : 1;
            at = behind;
        }
        text.clear();
        if (done > 0) {
            past.push(before);
        }
        told.tell(stuck ? 1 : 0, Integer.bitCount(now.standing));
        return done;
    }

    public int undo() {
        return past.pop(now) ? past.size() : NONE;
    }

    // ---- what a text tells

    public int tells() {
        int fault = readLetters();
        if (fault != NONE) {
            return -1 - fault;
        }
        int taken = now.wouldTake(letters);
        if (taken == NONE) {
            return TOO_FEW_SORTS;
        }
        told.tell(taken);
        return MOODS_TOLD + now.moodsOf(taken);
    }

    public int often() {
        int fault = readLetters();
        if (fault != NONE) {
            return -1 - fault;
        }
        int times = MOST_SORTS;
        for (int letter = 0; letter < LETTERS; letter++) {
            if (letters.need[letter] > 0) {
                times = Math.min(times, now.freeOf(letter) / letters.need[letter]);
            }
        }
        int missing = 0;
        for (int letter = 0; letter < LETTERS; letter++) {
            if (now.freeOf(letter) < (times + 1) * letters.need[letter]) {
                missing |= 1 << letter;
            }
        }
        told.tell(missing);
        return times;
    }

    public int shortest() {
        int fewest = 0;
        for (int letter = 1; letter < LETTERS; letter++) {
            if (now.freeOf(letter) < now.freeOf(fewest)) {
                fewest = letter;
            }
        }
        told.tell(now.freeOf(fewest), Integer.bitCount(now.ofLetter(fewest)));
        return fewest;
    }

    public int bears(int v) {
        int fault = readLetters();
        if (fault != NONE) {
            return -1 - fault;
        }
        if (v < -MOST_MOOD * MOST_SORTS || v > MOST_MOOD * MOST_SORTS) {
            return WRONG_VALUE;
        }
        int pool = letters.gather(now);
        int ways = 0;
        told.clear();
        for (int set = 0; set <= pool; set++) {
            if (letters.suits(set) && now.moodsOf(set) == v) {
                ways++;
                if (ways == 1) {
                    told.tell(set);
                }
            }
        }
        return ways;
    }

    public int spans() {
        int fault = readLetters();
        if (fault != NONE) {
            return -1 - fault;
        }
        int pool = letters.gather(now);
        int least = NONE;
        int greatest = NONE;
        for (int set = 0; set <= pool; set++) {
            if (letters.suits(set)) {
                int moods = now.moodsOf(set);
                if (least == NONE || moods < now.moodsOf(least)) {
                    least = set;
                }
                if (greatest == NONE || moods > now.moodsOf(greatest)) {
                    greatest = set;
                }
            }
        }
        if (least == NONE) {
            return TOO_FEW_SORTS;
        }
        told.tell(MOODS_TOLD + now.moodsOf(greatest), least, greatest);
        return MOODS_TOLD + now.moodsOf(least);
    }

    public int packs() {
        int fault = words.read(text);
        text.clear();
        if (fault != NONE) {
            return -1 - fault;
        }
        int most = words.mostAtOnce(now);
        told.tell(most);
        return Integer.bitCount(most);
    }

    // ---- moods later

    public int later(int sort, int n) {
        if (!now.has(sort) || n < 0 || n > MOST_NIGHTS_LATER) {
            return NONE;
        }
        then.copy(now);
        then.passNights(ruling, n, then.all());
        told.tell(then.box[sort], MOODS_TOLD + then.moodsOfAll());
        return MOOD_TOLD + then.mood[sort];
    }

    public int settles() {
        then.copy(now);
        int still = 0;
        for (int night = 1; night <= MOST_NIGHTS_LATER; night++) {
            still = then.passNight(ruling, then.all()) ? 0 : still + 1;
            if (still == NIGHTS_AT_REST) {
                told.tell(MOODS_TOLD + then.moodsOfAll());
                return night - NIGHTS_AT_REST;
            }
        }
        return NO_SUCH;
    }

    public int round() {
        then.copy(now);
        moodsBehind[0] = then.packedMoods();
        // By night all sorts go back, so with one standing now is never met again.
        int earliest = now.standing == 0 ? 0 : 1;
        for (int night = 1; night <= MOST_NIGHTS_LATER; night++) {
            then.passNight(ruling, then.all());
            moodsBehind[night] = then.packedMoods();
            for (int former = night - DAYS_OF_WEEK; former >= earliest; former -= DAYS_OF_WEEK) {
                if (moodsBehind[former] == moodsBehind[night]) {
                    told.tell(former);
                    return night;
                }
            }
        }
        return NO_SUCH;
    }

    public int gravest(int n) {
        if (n < 0 || n > MOST_NIGHTS_LATER) {
            return NONE;
        }
        if (now.size == 0) {
            return NO_SUCH;
        }
        then.copy(now);
        then.passNights(ruling, n, then.all());
        int gravest = 0;
        for (int sort = 1; sort < then.size; sort++) {
            if (Math.abs(then.mood[sort]) > Math.abs(then.mood[gravest])) {
                gravest = sort;
            }
        }
        told.tell(MOOD_TOLD + then.mood[gravest], MOOD_TOLD + now.mood[gravest]);
        return gravest;
    }

    public int blows(int n, int v) {
        if (n < 0 || n > MOST_NIGHTS_CLEANED || v < 0 || v > MOST_MOOD) {
            return NONE;
        }
        then.copy(now);
        then.distribute();
        int cleaned = 0;
        // Boxes do not change behind the first distribution, and none touches another.
        for (int box = 0; box < LETTERS; box++) {
            int inBox = fewestToClean(then.inBox(box), n, v);
            if (inBox == NONE) {
                return NO_SUCH;
            }
            cleaned |= inBox;
        }
        told.tell(cleaned);
        return Integer.bitCount(cleaned);
    }

    // ---- boxes

    public int parts() {
        int fault = boxing.read(text);
        text.clear();
        if (fault != NONE) {
            return -1 - fault;
        }
        int boxes = boxing.fewest();
        told.clear();
        for (int letter = 0; letter < LETTERS; letter++) {
            told.add(boxing.place[letter]);
        }
        return boxes;
    }

    public int mixed() {
        int boxes = 0;
        for (int box = 0; box < LETTERS; box++) {
            if (now.hasTwoLetters(box)) {
                boxes |= 1 << box;
            }
        }
        told.tell(boxes);
        return now.size - now.atHome();
    }

    public int rubs() {
        int farthest = NONE;
        for (int lesser = 0; lesser < now.size; lesser++) {
            for (int greater = lesser + 1; greater < now.size; greater++) {
                int far = Math.abs(now.mood[lesser] - now.mood[greater]);
                if (now.box[lesser] == now.box[greater] && far > farthest) {
                    farthest = far;
                    told.tell(lesser, greater);
                }
            }
        }
        return farthest == NONE ? NO_SUCH : farthest;
    }

    public int chord(int v) {
        if (v < -MOST_MOOD * LETTERS || v > MOST_MOOD * LETTERS) {
            return WRONG_VALUE;
        }
        int free = now.free();
        int best = NONE;
        int most = NONE;
        for (int set = 0; set <= free; set++) {
            int size = Integer.bitCount(set);
            if ((set & ~free) == 0 && size > most && now.moodsOf(set) == v && now.lettersOf(set) == size) {
                best = set;
                most = size;
            }
        }
        if (best == NONE) {
            return NO_SUCH;
        }
        told.tell(best);
        return most;
    }

    // ---- which sort it was

    public int heard(int what, int v) {
        return hearsay.hear(what, v);
    }

    public int forget() {
        return hearsay.clear();
    }

    public int fits() {
        int fitting = hearsay.fitting(now);
        told.tell(Integer.bitCount(fitting));
        return fitting;
    }

    public int asks() {
        int fitting = hearsay.fitting(now);
        if (fitting == 0) {
            return NO_SUCH;
        }
        int question = hearsay.bestQuestion(now, fitting);
        told.tell(hearsay.leftAtMost(now, fitting, question));
        return question;
    }

    // ---- laws of mixing (a 0 .. 5, b 1 .. 5: MOOD m beside a MOOD c becomes m and D:
    // a times (c less m), and that by b (cut to 0); put to -9 .. 9)

    public int saw(int m, int c, int u) {
        if (!isMood(m) || !isMood(c) || !isMood(u)) {
            return NONE;
        }
        return mixing.see(m, c, u);
    }

    public int denies() {
        return mixing.clear();
    }

    public int laws() {
        int fitting = mixing.fitting();
        told.clear();
        if (fitting != 0) {
            int least = Integer.numberOfTrailingZeros(fitting);
            told.tell(Mixing.upperOf(least), Mixing.lowerOf(least));
        }
        return Integer.bitCount(fitting);
    }

    public int looks() {
        int fitting = mixing.fitting();
        if (fitting == 0) {
            return NO_SUCH;
        }
        int look = mixing.bestLook(fitting);
        told.tell(mixing.leftAtMost(fitting, look));
        return look;
    }

    // ---- chances, a galley

    public int reads(int p) {
        int fault = readLetters();
        if (fault != NONE) {
            return -1 - fault;
        }
        if (p < 0 || p > 10) {
            return WRONG_VALUE;
        }
        if (now.wouldTake(letters) == NONE) {
            return TOO_FEW_SORTS;
        }
        long others = 1;
        long all = 10;
        for (int letter = 1; letter < letters.size; letter++) {
            others *= 10 - p;
            all *= 10;
        }
        long readable = others * (10 - p) + letters.size * p * others;
        long common = commonDivisor(all, readable);
        if (common > 0) {
            told.tell(readable / common, all / common);
        }
        return 0;
    }

    public int galley(int n) {
        if (n < 0 || n > Galley.MOST) {
            return NONE;
        }
        int left = galleys.leftOfWin(n);
        told.clear();
        if (left != NONE) {
            told.tell(left);
        }
        return left == NONE ? 0 : 1;
    }

    // ---- rests, rules, years

    public int rests(int v) {
        if (v < 0 || v > 20) {
            return NONE;
        }
        int pairs = 0;
        told.clear();
        for (int x = 0; x <= 9; x++) {
            for (int y = 0; y <= 9; y++) {
                if (isContent(v, x, y) && isContent(v, y, x)) {
                    pairs++;
                    if (pairs == 1) {
                        told.tell(x, y);
                    }
                }
            }
        }
        return pairs;
    }

    public int law() {
        int fault = another.read(text);
        text.clear();
        if (fault != NONE) {
            return WRONG_LAW - fault;
        }
        then.copy(now);
        then.passNights(ruling, NIGHTS_BY_LAW, then.all());
        int byRule = then.farFromRest();
        then.copy(now);
        then.passNights(another, NIGHTS_BY_LAW, then.all());
        int byOther = then.farFromRest();
        told.tell(byOther, byRule);
        for (int sort = 0; sort < then.size; sort++) {
            told.add(MOOD_TOLD + then.mood[sort]);
        }
        return byOther - byRule;
    }

    public int years(int seed, int n) {
        if (n < 1 || n > MOST_NIGHTS) {
            return NONE;
        }
        then.copy(now);
        int drawn = seed;
        for (int time = 0; time < n; time++) {
            drawn = nextDraw(drawn);
            int what = drawOf(drawn, 4);
            if (what < 2) {
                then.passNight(ruling, then.all());
            } else if (then.size > 0) {
                drawn = nextDraw(drawn);
                int sort = drawOf(drawn, then.size);
                drawn = nextDraw(drawn);
                if (what == 2) {
                    then.mood[sort] = drawOf(drawn, 2 * MOST_MOOD + 1) - MOST_MOOD;
                } else {
                    then.moveTo(sort, drawOf(drawn, LETTERS));
                }
            }
        }
        told.tell(MOODS_TOLD + then.moodsOfAll());
        return then.atHome();
    }

    // ---- kept

    public boolean keep(int i) {
        return past.keepUnder(i, now);
    }

    public boolean again(int i) {
        return past.bringBack(i, now);
    }

    public int count(int what) {
        switch (what) {
            case 0: return now.size;
            case 1: return now.night;
            case 2: return now.standing;
            case 3: return now.wearOfAll();
            case 4: return MOODS_TOLD + now.moodsOfAll();
            case 5: return now.atHome();
            case 6: return hearsay.size();
            case 7: return mixing.size();
            case 8: return past.size();
            case 9: return told.size();
            case 10: return text.size();
            default: return NONE;
        }
    }

    public long row(int i) throws NoSuchElementException {
        if (!told.has(i)) {
            throw new NoSuchElementException("no such number of the row");
        }
        return told.at(i);
    }

    // ---- helpers of the calls

    private static boolean isMood(int v) {
        return v >= -MOST_MOOD && v <= MOST_MOOD;
    }

    private static boolean isBox(int box) {
        return box >= 0 && box < LETTERS;
    }

    private static int putToMood(int v) {
        return v < -MOST_MOOD ? -MOST_MOOD : v > MOST_MOOD ? MOST_MOOD : v;
    }

    /** Reads THE TEXT as letters to be set, and empties it: the place of the fault, NONE without. */
    private int readLetters() {
        int fault = letters.read(text, 0, text.size());
        text.clear();
        return fault;
    }

    /** An act that answers 0 or more was done: what was ahead of it is kept. */
    private int undoable(int answer) {
        if (answer >= 0) {
            past.push(before);
        }
        return answer;
    }

    private int faultOfLines() {
        if (text.size() == 0) {
            return NONE;
        }
        int end = Math.min(text.size(), MOST_SIGNS_OF_SORTS);
        int at = 0;
        for (int line = now.size; line < MOST_SORTS; line++) {
            int fault = text.misfit("ldsd", at, end);
            if (fault != NONE) {
                return fault;
            }
            at += 4;
            if (at >= end) {
                return text.size() > end ? end : NONE;
            }
            if (text.at(at) != ';') {
                return at;
            }
            at++;
        }
        return at;
    }

    private int addLines() {
        int lines = 0;
        for (int at = 0; at + 4 <= text.size(); at += 5) {
            now.add(text.letterAt(at), text.digitAt(at + 1), text.signedDigitAt(at + 2));
            lines++;
        }
        if (lines > 0) {
            past.clear();
        }
        return lines;
    }

    private static int entryOf(int kind, int v) {
        return kind == 0 ? (byte) v : kind == 1 ? (short) v : v;
    }

    private int faultOfWeek() {
        int end = Math.min(text.size(), MOST_SIGNS_OF_WEEK);
        int at = 0;
        for (int act = 0; act < MOST_SIGNS_OF_WEEK && at < end; act++) {
            int behind = behindAct(at, end);
            if (behind < 0) {
                return -1 - behind;
            }
            at = behind;
        }
        return text.size() > end ? end : NONE;
    }

    /** The place behind the act that begins there, or -1 - p if the sign at p can't stand there. */
    private int behindAct(int at, int end) {
        String shape = shapeOfAct(text.at(at));
        if (shape.isEmpty()) {
            return -1 - at;
        }
        int fault = text.misfit(shape, at + 1, end);
        if (fault != NONE) {
            return -1 - fault;
        }
        int behind = at + 1 + shape.length();
        if (text.at(at) != 'S') {
            return behind;
        }
        int tooMany = at + 3 + MOST_LETTERS_OF_TEXT;
        for (int p = behind; p < end && Text.stands('l', text.at(p)); p++) {
            if (p == tooMany) {
                return -1 - p;
            }
            behind = p + 1;
        }
        return behind;
    }

    private static String shapeOfAct(int kind) {
        switch (kind) {
            case 'N': return "d";
            case 'S': return "sdl";
            case 'M': return "ddb";
            case 'C':
            case 'F': return "dd";
            default: return "";
        }
    }

    /** Does the act of a week that stands there: an answer below 0, if it can't be done. */
    private int doAct(int at, int behind) {
        switch (text.at(at)) {
            case 'N':
                now.passNights(ruling, text.digitAt(at + 1), now.all());
                return 0;
            case 'S':
                letters.read(text, at + 3, behind);
                return setLetters(text.signedDigitAt(at + 1));
            case 'M': return now.moveTo(text.twoDigitsAt(at + 1), text.digitAt(at + 3));
            case 'C': return now.clean(text.twoDigitsAt(at + 1));
            case 'F': return now.castAnew(text.twoDigitsAt(at + 1));
            default: return NONE;
        }
    }

    private int setLetters(int feeling) {
        int taken = now.wouldTake(letters);
        if (taken != NONE) {
            now.setSorts(taken, feeling);
        }
        return taken;
    }

    /** The fewest, and of these the least, of the sorts of one box to be cleaned; NONE if none help. */
    private int fewestToClean(int members, int n, int v) {
        int moody = 0;
        for (int sort = 0; sort < then.size; sort++) {
            if ((members >> sort & 1) == 1 && then.mood[sort] != 0) {
                moody |= 1 << sort;
            }
        }
        for (int size = 0; size <= Integer.bitCount(moody); size++) {
            for (int set = 0; set <= moody; set++) {
                if ((set & ~moody) == 0 && Integer.bitCount(set) == size && calms(members, set, n, v)) {
                    return set;
                }
            }
        }
        return NONE;
    }

    private boolean calms(int members, int cleaned, int n, int v) {
        trial.copy(then);
        for (int sort = 0; sort < trial.size; sort++) {
            if ((cleaned >> sort & 1) == 1) {
                trial.mood[sort] = 0;
            }
        }
        trial.passNights(ruling, n, members);
        for (int sort = 0; sort < trial.size; sort++) {
            if ((members >> sort & 1) == 1 && Math.abs(trial.mood[sort]) > v) {
                return false;
            }
        }
        return true;
    }

    private static long commonDivisor(long a, long b) {
        long greater = a;
        long lesser = b;
        for (int step = 0; step < 200 && lesser != 0; step++) {
            long rest = greater % lesser;
            greater = lesser;
            lesser = rest;
        }
        return greater;
    }

    private static int sells(int v, int own, int others) {
        int sold = own > others ? v : own < others ? v / 2 : 2 * v / 3;
        return sold - own - (own + others >= 10 ? 1 : 0);
    }

    private static boolean isContent(int v, int own, int others) {
        for (int number = 0; number <= 9; number++) {
            if (sells(v, number, others) > sells(v, own, others)) {
                return false;
            }
        }
        return true;
    }

    private static int nextDraw(int drawn) {
        return drawn * 1103515245 + 12345;
    }

    private static int drawOf(int drawn, int n) {
        return n > 0 ? (drawn >>> 16) % n : 0;
    }

    /** THE TEXT: signs that wait for a call that reads them. */
    private static final class Text {
        private final char[] signs = new char[MOST_SIGNS];
        private int size = 0;

        int append(int v) {
            if (size > MOST_SIGNS - 4) {
                return NONE;
            }
            for (int shift = 24; shift >= 0; shift -= 8) {
                signs[size] = (char) (v >>> shift & 255);
                size++;
            }
            return size;
        }

        boolean cut(int n) {
            if (n < 0 || n > size) {
                return false;
            }
            size = n;
            return true;
        }

        void clear() {
            size = 0;
        }

        int size() {
            return size;
        }

        int at(int p) {
            return p >= 0 && p < size ? signs[p] : 0;
        }

        int letterAt(int p) {
            return at(p) - 'a';
        }

        int digitAt(int p) {
            return at(p) - '0';
        }

        int twoDigitsAt(int p) {
            return 10 * digitAt(p) + digitAt(p + 1);
        }

        int signedDigitAt(int p) {
            return at(p) == '-' ? -digitAt(p + 1) : digitAt(p + 1);
        }

        /** The first place, from there on, where the signs leave a shape; NONE if they keep to it. */
        int misfit(String shape, int from, int end) {
            for (int j = 0; j < shape.length(); j++) {
                if (from + j >= end || !stands(shape.charAt(j), at(from + j))) {
                    return from + j;
                }
            }
            return NONE;
        }

        /** Kinds of signs: l a letter, d a digit, b a box, s + or -. */
        static boolean stands(char kind, int sign) {
            switch (kind) {
                case 'l': return sign >= 'a' && sign <= 'h';
                case 'd': return sign >= '0' && sign <= '9';
                case 'b': return sign >= '0' && sign <= '7';
                case 's': return sign == '+' || sign == '-';
                default: return false;
            }
        }
    }

    /** The ROW: law() tells the most numbers, two and one of each sort. */
    private static final class Numbers {
        private final long[] numbers = new long[2 + MOST_SORTS];
        private int size = 0;

        void clear() {
            size = 0;
        }

        void add(long number) {
            if (size < numbers.length) {
                numbers[size] = number;
                size++;
            }
        }

        void tell(long a) {
            clear();
            add(a);
        }

        void tell(long a, long b) {
            clear();
            add(a);
            add(b);
        }

        void tell(long a, long b, long c) {
            clear();
            add(a);
            add(b);
            add(c);
        }

        int size() {
            return size;
        }

        boolean has(int i) {
            return i >= 0 && i < size;
        }

        long at(int i) {
            return has(i) ? numbers[i] : 0;
        }
    }

    /** All sorts and the night: what is copied to be undone, kept, or tried out. */
    private static final class TypeCase {
        final int[] letter = new int[MOST_SORTS];
        final int[] wear = new int[MOST_SORTS];
        final int[] mood = new int[MOST_SORTS];
        final int[] box = new int[MOST_SORTS];
        int size = 0;
        int standing = 0;
        int night = 0;
        private final int[] moodsInBox = new int[LETTERS];
        private final int[] sortsInBox = new int[LETTERS];

        void copy(TypeCase other) {
            System.arraycopy(other.letter, 0, letter, 0, MOST_SORTS);
            System.arraycopy(other.wear, 0, wear, 0, MOST_SORTS);
            System.arraycopy(other.mood, 0, mood, 0, MOST_SORTS);
            System.arraycopy(other.box, 0, box, 0, MOST_SORTS);
            size = other.size;
            standing = other.standing;
            night = other.night;
        }

        void add(int ofLetter, int ofWear, int ofMood) {
            if (size < MOST_SORTS) {
                letter[size] = ofLetter;
                wear[size] = ofWear;
                mood[size] = ofMood;
                box[size] = ofLetter;
                size++;
            }
        }

        boolean has(int sort) {
            return sort >= 0 && sort < size;
        }

        int all() {
            return (1 << size) - 1;
        }

        int free() {
            return all() & ~standing;
        }

        int ofLetter(int told) {
            return whose(letter, told);
        }

        int freeOf(int told) {
            return Integer.bitCount(ofLetter(told) & ~standing);
        }

        int inBox(int told) {
            return whose(box, told);
        }

        /** The sorts (bits) for which such a number is the told one. */
        private int whose(int[] numbers, int told) {
            int set = 0;
            for (int sort = 0; sort < size && sort < numbers.length; sort++) {
                set |= numbers[sort] == told ? 1 << sort : 0;
            }
            return set;
        }

        int moodsOf(int set) {
            int moods = 0;
            for (int sort = 0; sort < size; sort++) {
                moods += (set >> sort & 1) == 1 ? mood[sort] : 0;
            }
            return moods;
        }

        int moodsOfAll() {
            return moodsOf(all());
        }

        int farFromRest() {
            int far = 0;
            for (int sort = 0; sort < size; sort++) {
                far += Math.abs(mood[sort]);
            }
            return far;
        }

        int wearOfAll() {
            int sum = 0;
            for (int sort = 0; sort < size; sort++) {
                sum += wear[sort];
            }
            return sum;
        }

        int atHome() {
            int home = 0;
            for (int sort = 0; sort < size; sort++) {
                home += box[sort] == letter[sort] ? 1 : 0;
            }
            return home;
        }

        boolean hasTwoLetters(int told) {
            return lettersOf(inBox(told)) > 1;
        }

        /** How many different letters the sorts of a set have. */
        int lettersOf(int set) {
            int seen = 0;
            for (int sort = 0; sort < size; sort++) {
                seen |= (set >> sort & 1) == 1 ? 1 << letter[sort] : 0;
            }
            return Integer.bitCount(seen);
        }

        /** All moods in one number, five bits each: equal numbers, equal moods. */
        long packedMoods() {
            long packed = 0;
            for (int sort = 0; sort < size; sort++) {
                packed = packed << 5 | (mood[sort] + MOST_MOOD);
            }
            return packed;
        }

        /** The sorts that letters would take now; NONE if there are not enough. */
        int wouldTake(Letters letters) {
            int taken = 0;
            for (int told = 0; told < LETTERS; told++) {
                for (int time = 0; time < letters.need[told]; time++) {
                    int sort = leastWorn(ofLetter(told) & ~standing & ~taken);
                    if (sort == NONE) {
                        return NONE;
                    }
                    taken |= 1 << sort;
                }
            }
            return taken;
        }

        private int leastWorn(int set) {
            int least = NONE;
            for (int sort = 0; sort < size; sort++) {
                if ((set >> sort & 1) == 1 && (least == NONE || wear[sort] < wear[least])) {
                    least = sort;
                }
            }
            return least;
        }

        void setSorts(int taken, int feeling) {
            standing |= taken;
            for (int sort = 0; sort < size; sort++) {
                if ((taken >> sort & 1) == 1) {
                    wear[sort] = Math.min(MOST_WEAR, wear[sort] + 1);
                    mood[sort] = putToMood(mood[sort] + feeling);
                }
            }
        }

        int moveTo(int sort, int to) {
            if (!has(sort) || !isBox(to)) {
                return NONE;
            }
            if ((standing >> sort & 1) == 1) {
                return STANDING;
            }
            if (box[sort] == to) {
                return THERE_ALREADY;
            }
            int from = box[sort];
            box[sort] = to;
            return 10 + from;
        }

        int clean(int sort) {
            if (!has(sort)) {
                return NONE;
            }
            int had = mood[sort];
            mood[sort] = 0;
            return had == 0 ? NOUGHT_ALREADY : MOOD_TOLD + had;
        }

        int castAnew(int sort) {
            if (!has(sort)) {
                return NONE;
            }
            int had = wear[sort];
            wear[sort] = 0;
            return had == 0 ? NOUGHT_ALREADY : had;
        }

        void distribute() {
            for (int sort = 0; sort < size && standing != 0; sort++) {
                if ((standing >> sort & 1) == 1) {
                    box[sort] = wear[sort] == MOST_WEAR ? (letter[sort] + 1) % LETTERS : letter[sort];
                }
            }
            standing = 0;
        }

        /** Nights for these sorts, who share their boxes with no others. */
        void passNights(Rule rule, int n, int members) {
            for (int gone = 1; gone <= n; gone++) {
                boolean changed = passNight(rule, members);
                if (!changed && !rule.looksAtNight()) {
                    // Nothing can change any more: the nights that are left go by at once.
                    night += n - gone;
                    return;
                }
            }
        }

        /** One night: whether a mood has changed. */
        boolean passNight(Rule rule, int members) {
            distribute();
            weighBoxes();
            boolean changed = false;
            for (int sort = 0; sort < size; sort++) {
                if ((members >> sort & 1) == 1) {
                    int was = mood[sort];
                    mood[sort] = putToMood(was + turn(rule, sort));
                    changed |= mood[sort] != was;
                }
            }
            night++;
            return changed;
        }

        int turnNow(Rule rule, int sort) {
            weighBoxes();
            return has(sort) ? turn(rule, sort) : 0;
        }

        /** Moods turn all at once, so their sums are taken ahead of the first turn. */
        private void weighBoxes() {
            Arrays.fill(moodsInBox, 0);
            Arrays.fill(sortsInBox, 0);
            for (int sort = 0; sort < size; sort++) {
                moodsInBox[box[sort]] += mood[sort];
                sortsInBox[box[sort]]++;
            }
        }

        private int turn(Rule rule, int sort) {
            rule.things[Rule.MOOD] = mood[sort];
            rule.things[Rule.WEAR] = wear[sort];
            rule.things[Rule.LETTER] = letter[sort];
            rule.things[Rule.OTHERS] = sortsInBox[box[sort]] - 1;
            rule.things[Rule.OTHERS_MOODS] = moodsInBox[box[sort]] - mood[sort];
            rule.things[Rule.NUMBER] = sort;
            rule.things[Rule.NIGHT] = night % DAYS_OF_WEEK;
            return putToMood(rule.value());
        }
    }

    /** THE RULE, turned from a text into steps with the operators behind what they join. */
    private static final class Rule {
        private static final String THINGS = "mwlkbin";
        private static final int MOOD = 0;
        private static final int WEAR = 1;
        private static final int LETTER = 2;
        private static final int OTHERS = 3;
        private static final int OTHERS_MOODS = 4;
        private static final int NUMBER = 5;
        private static final int NIGHT = 6;
        private static final int MOST_DEPTH = 4;
        private static final int MOST_DIGITS = 3;
        /** Steps: a number below THING is itself, then come things, then operators by their signs. */
        private static final int THING = 1000;
        private static final int OPERATOR = 1007;
        private static final int NEGATION = 2000;

        final int[] things = new int[7];
        private final int[] steps = new int[MOST_SIGNS_OF_RULE];
        private final int[] stack = new int[MOST_SIGNS_OF_RULE];
        private int size = 0;
        private boolean hasNight = false;
        private int at = 0;
        private int end = 0;

        Rule() {
            putFirstRule();
        }

        boolean looksAtNight() {
            return hasNight;
        }

        /** The place of the first sign that can't stand there, NONE if the text is a rule. */
        int read(Text text) {
            size = 0;
            hasNight = false;
            at = 0;
            end = Math.min(text.size(), MOST_SIGNS_OF_RULE);
            if (end == 0) {
                putFirstRule();
                return NONE;
            }
            if (!readExpression(text, 0) || at < end) {
                return at;
            }
            return text.size() > end ? end : NONE;
        }

        /** (b/k-m)/2 */
        private void putFirstRule() {
            putThing(OTHERS_MOODS);
            putThing(OTHERS);
            put(OPERATOR + '/');
            putThing(MOOD);
            put(OPERATOR + '-');
            put(2);
            put(OPERATOR + '/');
        }

        private void put(int step) {
            if (size < steps.length) {
                steps[size] = step;
                size++;
            }
        }

        private void putThing(int thing) {
            put(THING + thing);
            hasNight |= thing == NIGHT;
        }

        /** False, as of all that follow: the sign at the place that was reached can't stand there. */
        private boolean readExpression(Text text, int depth) {
            if (!readSum(text, depth)) {
                return false;
            }
            int sign = at < end ? text.at(at) : 0;
            if (sign != '<' && sign != '>' && sign != '=') {
                return true;
            }
            at++;
            if (!readSum(text, depth)) {
                return false;
            }
            put(OPERATOR + sign);
            return true;
        }

        private boolean readSum(Text text, int depth) {
            if (!readProduct(text, depth)) {
                return false;
            }
            for (int joined = 0; joined < MOST_SIGNS_OF_RULE && at < end; joined++) {
                int sign = text.at(at);
                if (sign != '+' && sign != '-') {
                    return true;
                }
                at++;
                if (!readProduct(text, depth)) {
                    return false;
                }
                put(OPERATOR + sign);
            }
            return true;
        }

        private boolean readProduct(Text text, int depth) {
            if (!readThing(text, depth)) {
                return false;
            }
            for (int joined = 0; joined < MOST_SIGNS_OF_RULE && at < end; joined++) {
                int sign = text.at(at);
                if (sign != '*' && sign != '/') {
                    return true;
                }
                at++;
                if (!readThing(text, depth)) {
                    return false;
                }
                put(OPERATOR + sign);
            }
            return true;
        }

        private boolean readThing(Text text, int depth) {
            boolean negative = false;
            for (; at < end && text.at(at) == '-'; at++) {
                negative = !negative;
            }
            if (at >= end) {
                return false;
            }
            int sign = text.at(at);
            int thing = THINGS.indexOf((char) sign);
            if (thing >= 0) {
                at++;
                putThing(thing);
            } else if (Text.stands('d', sign)) {
                readNumber(text);
            } else if (sign != '(' || !readInner(text, depth)) {
                return false;
            }
            if (negative) {
                put(NEGATION);
            }
            return true;
        }

        private void readNumber(Text text) {
            int number = 0;
            int behind = Math.min(end, at + MOST_DIGITS);
            for (; at < behind && Text.stands('d', text.at(at)); at++) {
                number = 10 * number + text.at(at) - '0';
            }
            put(number);
        }

        private boolean readInner(Text text, int depth) {
            if (depth >= MOST_DEPTH) {
                return false;
            }
            at++;
            if (!readExpression(text, depth + 1) || at >= end || text.at(at) != ')') {
                return false;
            }
            at++;
            return true;
        }

        /** What the rule says of the things as they were put. */
        int value() {
            int top = 0;
            for (int j = 0; j < size; j++) {
                int step = steps[j];
                if (step < OPERATOR) {
                    if (top < stack.length) {
                        stack[top] = step < THING ? step : things[step - THING];
                        top++;
                    }
                } else if (step == NEGATION) {
                    if (top > 0) {
                        stack[top - 1] = -stack[top - 1];
                    }
                } else if (top > 1) {
                    top--;
                    int left = stack[top - 1];
                    int right = stack[top];
                    switch (step - OPERATOR) {
                        case '+': stack[top - 1] = left + right; break;
                        case '-': stack[top - 1] = left - right; break;
                        case '*': stack[top - 1] = left * right; break;
                        case '/': stack[top - 1] = right == 0 ? 0 : left / right; break;
                        case '<': stack[top - 1] = left < right ? 1 : 0; break;
                        case '>': stack[top - 1] = left > right ? 1 : 0; break;
                        default: stack[top - 1] = left == right ? 1 : 0; break;
                    }
                }
            }
            return stack[0];
        }
    }

    /** What can be undone, the latest twelve, and what is kept under two numbers. */
    private static final class Past {
        private static final int MOST = 12;
        private static final int MOST_KEPT = 2;

        private final TypeCase[] cases = new TypeCase[MOST];
        private final TypeCase[] kept = new TypeCase[MOST_KEPT];
        private final boolean[] isKept = new boolean[MOST_KEPT];
        private int size = 0;
        private int next = 0;

        Past() {
            for (int i = 0; i < MOST; i++) {
                cases[i] = new TypeCase();
            }
            for (int i = 0; i < MOST_KEPT; i++) {
                kept[i] = new TypeCase();
            }
        }

        int size() {
            return size;
        }

        void clear() {
            size = 0;
        }

        void push(TypeCase ahead) {
            cases[next].copy(ahead);
            next = (next + 1) % MOST;
            size = Math.min(MOST, size + 1);
        }

        boolean pop(TypeCase now) {
            if (size == 0) {
                return false;
            }
            next = (next + MOST - 1) % MOST;
            size--;
            now.copy(cases[next]);
            return true;
        }

        boolean keepUnder(int i, TypeCase now) {
            if (i < 0 || i >= MOST_KEPT) {
                return false;
            }
            kept[i].copy(now);
            isKept[i] = true;
            return true;
        }

        boolean bringBack(int i, TypeCase now) {
            // Sorts only ever come, so another number of them tells that some came since.
            if (i < 0 || i >= MOST_KEPT || !isKept[i] || kept[i].size != now.size) {
                return false;
            }
            now.copy(kept[i]);
            clear();
            return true;
        }
    }

    /** A text of 1 to 12 letters: how many it needs of each (their order does not matter to any call). */
    private static final class Letters {
        final int[] need = new int[LETTERS];
        int size = 0;
        private final int[] pools = new int[LETTERS];
        private int pool = 0;

        /** The place of the first sign that can't stand there, NONE if all can. */
        int read(Text text, int from, int end) {
            Arrays.fill(need, 0);
            size = 0;
            for (int p = from; p < end; p++) {
                if (size == MOST_LETTERS_OF_TEXT || !Text.stands('l', text.at(p))) {
                    return p;
                }
                need[text.letterAt(p)]++;
                size++;
            }
            return size == 0 ? from : NONE;
        }

        /** The sorts by which these letters could be set. */
        int gather(TypeCase now) {
            pool = 0;
            for (int letter = 0; letter < LETTERS; letter++) {
                pools[letter] = need[letter] > 0 ? now.ofLetter(letter) & now.free() : 0;
                pool |= pools[letter];
            }
            return pool;
        }

        /** Whether a set, of the sorts gathered, has just as many of each letter as are needed. */
        boolean suits(int set) {
            if ((set & ~pool) != 0 || Integer.bitCount(set) != size) {
                return false;
            }
            for (int letter = 0; letter < LETTERS; letter++) {
                if (Integer.bitCount(set & pools[letter]) != need[letter]) {
                    return false;
                }
            }
            return true;
        }
    }

    /** Words that ask for the same sorts. */
    private static final class Words {
        private static final int MOST = 8;

        private final int[] need = new int[MOST * LETTERS];
        private final int[] there = new int[LETTERS];
        private int size = 0;

        /** The place of the first sign that can't stand there, NONE if all can. */
        int read(Text text) {
            Arrays.fill(need, 0);
            size = 0;
            int end = Math.min(text.size(), MOST_SIGNS_OF_WORDS);
            boolean inWord = false;
            for (int p = 0; p < end; p++) {
                if (Text.stands('l', text.at(p)) && size < MOST) {
                    need[size * LETTERS + text.letterAt(p)]++;
                    inWord = true;
                } else if (text.at(p) == ';' && inWord) {
                    size++;
                    inWord = false;
                } else {
                    return p;
                }
            }
            if (!inWord) {
                return end;
            }
            size++;
            return text.size() > end ? end : NONE;
        }

        /** The most words, and of as many the least set, that can be set at once. */
        int mostAtOnce(TypeCase now) {
            for (int letter = 0; letter < LETTERS; letter++) {
                there[letter] = now.freeOf(letter);
            }
            int best = 0;
            for (int set = 1; set < 1 << size; set++) {
                if (Integer.bitCount(set) > Integer.bitCount(best) && canBeSet(set)) {
                    best = set;
                }
            }
            return best;
        }

        private boolean canBeSet(int set) {
            for (int letter = 0; letter < LETTERS; letter++) {
                int needed = 0;
                for (int word = 0; word < size; word++) {
                    needed += (set >> word & 1) * need[word * LETTERS + letter];
                }
                if (needed > there[letter]) {
                    return false;
                }
            }
            return true;
        }
    }

    /** Boxes for all letters, so that told pairs are apart. */
    private static final class Boxing {
        final int[] place = new int[LETTERS];
        private final int[] apart = new int[LETTERS];

        /** The place of the first sign that can't stand there, NONE if all can. */
        int read(Text text) {
            Arrays.fill(apart, 0);
            int end = Math.min(text.size(), MOST_SIGNS_OF_PAIRS);
            if (end == 0) {
                return NONE;
            }
            for (int at = 0; at <= end; at += 3) {
                int fault = text.misfit("ll", at, end);
                if (fault != NONE) {
                    return fault;
                }
                if (text.at(at) == text.at(at + 1)) {
                    return at + 1;
                }
                putApart(text.letterAt(at), text.letterAt(at + 1));
                if (at + 2 < end && text.at(at + 2) != ';') {
                    return at + 2;
                }
                if (at + 2 >= end) {
                    return text.size() > end ? end : NONE;
                }
            }
            return end;
        }

        private void putApart(int one, int other) {
            apart[one] |= 1 << other;
            apart[other] |= 1 << one;
        }

        /** The fewest boxes; place[] is the least row by which they do. */
        int fewest() {
            for (int boxes = 1; boxes < LETTERS; boxes++) {
                if (placeFrom(place, apart, 0, boxes, 0)) {
                    return boxes;
                }
            }
            placeFrom(place, apart, 0, LETTERS, 0);
            return LETTERS;
        }

        /** Of the boxes not yet used only the first is tried: in the least row it is always that one. */
        private static boolean placeFrom(int[] place, int[] apart, int letter, int boxes, int used) {
            if (letter >= LETTERS) {
                return true;
            }
            for (int box = 0; box < boxes && box <= used; box++) {
                if (mayStand(place, apart, letter, box)) {
                    place[letter] = box;
                    if (placeFrom(place, apart, letter + 1, boxes, Math.max(used, box + 1))) {
                        return true;
                    }
                }
            }
            return false;
        }

        private static boolean mayStand(int[] place, int[] apart, int letter, int box) {
            for (int former = 0; former < letter; former++) {
                if (place[former] == box && (apart[letter] >> former & 1) == 1) {
                    return false;
                }
            }
            return true;
        }
    }

    /** What was heard of a sort; a question is 10 times what and v. */
    private static final class Hearsay {
        private static final int MOST = 12;
        private static final int KINDS = 5;

        private final int[] questions = new int[MOST];
        private int size = 0;

        int size() {
            return size;
        }

        int hear(int what, int v) {
            if (v < 0 || v > mostOf(what) || size >= MOST) {
                return NONE;
            }
            questions[size] = 10 * what + v;
            size++;
            return size;
        }

        int clear() {
            int were = size;
            size = 0;
            return were;
        }

        /** The greatest v that may be heard of a kind; NONE for no kind. */
        private static int mostOf(int what) {
            switch (what) {
                case 0:
                case 3: return LETTERS - 1;
                case 1: return MOST_WEAR;
                case 2: return 1;
                case 4: return MOST_MOOD;
                default: return NONE;
            }
        }

        int fitting(TypeCase now) {
            int set = now.all();
            for (int j = 0; j < size; j++) {
                set &= answering(now, questions[j]);
            }
            return set;
        }

        /** The sorts of which it is so. */
        private static int answering(TypeCase now, int question) {
            int set = 0;
            for (int sort = 0; sort < now.size; sort++) {
                set |= isSo(now, sort, question / 10, question % 10) ? 1 << sort : 0;
            }
            return set;
        }

        private static boolean isSo(TypeCase now, int sort, int what, int v) {
            switch (what) {
                case 0: return now.letter[sort] == v;
                case 1: return now.wear[sort] >= v;
                case 2: return (now.standing >> sort & 1) == v;
                case 3: return now.box[sort] == v;
                default: return now.mood[sort] >= v;
            }
        }

        int leftAtMost(TypeCase now, int fitting, int question) {
            int so = Integer.bitCount(fitting & answering(now, question));
            return Math.max(so, Integer.bitCount(fitting) - so);
        }

        int bestQuestion(TypeCase now, int fitting) {
            int best = 0;
            int fewest = MOST_SORTS + 1;
            for (int what = 0; what < KINDS; what++) {
                for (int v = 0; v <= mostOf(what); v++) {
                    int left = leftAtMost(now, fitting, 10 * what + v);
                    if (left < fewest) {
                        fewest = left;
                        best = 10 * what + v;
                    }
                }
            }
            return best;
        }
    }

    /** Laws of mixing, numbered by a and then b, and what was seen of them. */
    private static final class Mixing {
        private static final int MOST = 10;
        private static final int LAWS = 30;
        private static final int LOWERS = 5;
        private static final int MOODS = 2 * MOST_MOOD + 1;

        private final int[] moods = new int[MOST];
        private final int[] besides = new int[MOST];
        private final int[] outcomes = new int[MOST];
        private final int[] lawsByOutcome = new int[MOODS];
        private int size = 0;

        int size() {
            return size;
        }

        int see(int m, int c, int u) {
            if (size >= MOST) {
                return NONE;
            }
            moods[size] = m;
            besides[size] = c;
            outcomes[size] = u;
            size++;
            return size;
        }

        int clear() {
            int were = size;
            size = 0;
            return were;
        }

        static int upperOf(int law) {
            return law / LOWERS;
        }

        static int lowerOf(int law) {
            return law % LOWERS + 1;
        }

        private static int becomes(int law, int m, int c) {
            return putToMood(m + upperOf(law) * (c - m) / lowerOf(law));
        }

        /** The laws (bits) that fit all that was seen. */
        int fitting() {
            int set = 0;
            for (int law = 0; law < LAWS; law++) {
                set |= fitsAll(law) ? 1 << law : 0;
            }
            return set;
        }

        private boolean fitsAll(int law) {
            for (int j = 0; j < size; j++) {
                if (becomes(law, moods[j], besides[j]) != outcomes[j]) {
                    return false;
                }
            }
            return true;
        }

        /** A look is 19 times (9 and m), and 9 and c. */
        int leftAtMost(int fitting, int look) {
            Arrays.fill(lawsByOutcome, 0);
            int most = 0;
            for (int law = 0; law < LAWS; law++) {
                if ((fitting >> law & 1) == 1) {
                    int outcome = becomes(law, look / MOODS - MOST_MOOD, look % MOODS - MOST_MOOD) + MOST_MOOD;
                    lawsByOutcome[outcome]++;
                    most = Math.max(most, lawsByOutcome[outcome]);
                }
            }
            return most;
        }

        int bestLook(int fitting) {
            int best = 0;
            int fewest = LAWS + 1;
            for (int look = 0; look < MOODS * MOODS; look++) {
                int left = leftAtMost(fitting, look);
                if (left < fewest) {
                    fewest = left;
                    best = look;
                }
            }
            return best;
        }
    }

    /** The game of the galley: worths of rows, by which a player who can win sees how. */
    private static final class Galley {
        private static final int MOST = 60;

        private final int[] worth = new int[MOST + 1];
        private int known = 0;

        /** How many letters stay to the left of those that the first one takes to win; NONE if he can't. */
        int leftOfWin(int n) {
            learn(n);
            if (n == 1) {
                return 0;
            }
            for (int left = 0; left + 2 <= n; left++) {
                if (worth[left] == worth[n - 2 - left]) {
                    return left;
                }
            }
            return NONE;
        }

        private void learn(int n) {
            for (int row = known + 1; row <= n && row <= MOST; row++) {
                // A row of one leaves nothing, whose worth is 0.
                long reached = row == 1 ? 1 : 0;
                for (int left = 0; left + 2 <= row; left++) {
                    reached |= 1L << (worth[left] ^ worth[row - 2 - left]);
                }
                worth[row] = Long.numberOfTrailingZeros(~reached);
                known = row;
            }
        }
    }
}
