import java.util.NoSuchElementException;
import java.util.function.Supplier;
import java.util.function.ToIntBiFunction;
import java.util.function.ToIntFunction;

/** What the tests share: texts put by signs, answers compared, and all of an object's state as one text. */
final class Calls {
    private Calls() {
    }

    private static int wrong = 0;
    private static int checked = 0;
    private static String part = "";

    /** Names the promise that the next answers belong to. */
    static void promise(String name) {
        part = name;
    }

    static void due(String call, long got, long want) {
        checked++;
        if (got != want) {
            wrong++;
            System.out.println(part + ": " + call + " answered " + got + ", due is " + want);
        }
    }

    static void due(String call, boolean got, boolean want) {
        due(call, got ? 1 : 0, want ? 1 : 0);
    }

    static void due(String call, String got, String want) {
        checked++;
        if (!got.equals(want)) {
            wrong++;
            System.out.println(part + ": " + call + " answered " + got + ", due is " + want);
        }
    }

    /** The ROW has these numbers and no others. */
    static void row(String call, TypeAtNight x, long... want) {
        StringBuilder due = new StringBuilder();
        for (long number : want) {
            due.append(' ').append(number);
        }
        due("ROW of " + call, rowOf(x), due.toString());
    }

    static String rowOf(TypeAtNight x) {
        StringBuilder row = new StringBuilder();
        int size = x.count(9);
        for (int i = 0; i < size; i++) {
            row.append(' ').append(x.row(i));
        }
        return row.toString();
    }

    /** A call that has to throw. */
    interface Throwing {
        void call();
    }

    static void noSuch(String call, Throwing throwing) {
        checked++;
        try {
            throwing.call();
        } catch (NoSuchElementException e) {
            return;
        }
        wrong++;
        System.out.println(part + ": " + call + " did not throw NoSuchElementException");
    }

    /** THE TEXT is just this one then. */
    static TypeAtNight put(TypeAtNight x, String text) {
        x.end(0);
        for (int i = 0; i < text.length(); i += 4) {
            x.sign(fourOf(text, i));
        }
        x.end(text.length());
        return x;
    }

    /** Four signs from there on, as sign() takes them; signs of 0 behind the end. */
    static int fourOf(String text, int from) {
        int v = 0;
        for (int j = from; j < from + 4; j++) {
            v = v << 8 | (j < text.length() ? text.charAt(j) & 255 : 0);
        }
        return v;
    }

    /** A new object with these SORTS. */
    static TypeAtNight with(String sorts) {
        TypeAtNight x = new TypeAtNight();
        put(x, sorts).sorts();
        return x;
    }

    static TypeAtNight with(String sorts, String rule) {
        TypeAtNight x = with(sorts);
        put(x, rule).rule();
        return x;
    }

    /** The object, with a text set in it. */
    static TypeAtNight set(TypeAtNight x, String text, int feeling) {
        put(x, text).sets(feeling);
        return x;
    }

    /** The object, with SORTS moved: a SORT, a BOX, a SORT, a BOX, .. */
    static Supplier<TypeAtNight> moved(Supplier<TypeAtNight> made, int... sortsAndBoxes) {
        return () -> {
            TypeAtNight x = made.get();
            for (int j = 0; j + 1 < sortsAndBoxes.length; j += 2) {
                x.moves(sortsAndBoxes[j], sortsAndBoxes[j + 1]);
            }
            return x;
        };
    }

    /** The object, with things heard: what, v, what, v, .. */
    static Supplier<TypeAtNight> hearing(Supplier<TypeAtNight> made, int... whatsAndValues) {
        return () -> {
            TypeAtNight x = made.get();
            for (int j = 0; j + 1 < whatsAndValues.length; j += 2) {
                x.heard(whatsAndValues[j], whatsAndValues[j + 1]);
            }
            return x;
        };
    }

    /** The object, with things seen: m, c, u, m, c, u, .. */
    static Supplier<TypeAtNight> seeing(Supplier<TypeAtNight> made, int... moods) {
        return () -> {
            TypeAtNight x = made.get();
            for (int j = 0; j + 2 < moods.length; j += 3) {
                x.saw(moods[j], moods[j + 1], moods[j + 2]);
            }
            return x;
        };
    }

    /** Of all SORTS the same thing: LETTER, WEAR, .., as sort() tells it. */
    static void each(String call, TypeAtNight x, int what, long... want) {
        for (int sort = 0; sort < want.length; sort++) {
            due(call + ": sort(" + sort + ", " + what + ")", x.sort(sort, what), want[sort]);
        }
    }

    /** Texts and the places of their signs that can't stand there: the answer is as far below the first one. */
    static void faults(String call, Supplier<TypeAtNight> made, ToIntFunction<TypeAtNight> asked, long first,
            Object... textsAndPlaces) {
        for (int j = 0; j + 1 < textsAndPlaces.length; j += 2) {
            long place = ((Integer) textsAndPlaces[j + 1]).longValue();
            refused(call, made, (String) textsAndPlaces[j], asked, first - place);
        }
    }

    /** Numbers beside a range and far from it, for each of which a call is refused in the same way. */
    static void others(String call, Supplier<TypeAtNight> made, String text,
            ToIntBiFunction<TypeAtNight, Integer> asked, int least, int most, long want) {
        int[] numbers = {least - 1, most + 1, Integer.MIN_VALUE, Integer.MAX_VALUE};
        for (int number : numbers) {
            refused(call + " with " + number, made, text, x -> asked.applyAsInt(x, number), want);
        }
    }

    /** All that can be seen of SORTS, NIGHT, what was heard and seen, and what can be undone; not THE TEXT. */
    static String state(TypeAtNight x) {
        StringBuilder state = new StringBuilder();
        for (int what = 0; what <= 8; what++) {
            state.append(x.count(what)).append(' ');
        }
        for (int sort = 0; sort < x.count(0); sort++) {
            state.append('[');
            for (int what = 0; what <= 5; what++) {
                state.append(x.sort(sort, what)).append(' ');
            }
            state.append(']');
        }
        return state.append("ROW").append(rowOf(x)).toString();
    }

    /** What undo() brings back: NIGHT and all of SORTS. */
    static String undoable(TypeAtNight x) {
        StringBuilder state = new StringBuilder().append(x.count(1)).append(':');
        for (int sort = 0; sort < x.count(0); sort++) {
            for (int what = 0; what <= 4; what++) {
                state.append(x.sort(sort, what)).append(' ');
            }
        }
        return state.toString();
    }

    /** A long ROW: two numbers and one of each SORT, so that a call that spoils it is seen. */
    static void mark(TypeAtNight x) {
        put(x, "").law();
    }

    /**
     * A call that is refused, or that says there is none: nothing changes, the ROW neither. An object
     * answers for 512 calls, so each such check is made on a new one.
     */
    static void refused(String call, Supplier<TypeAtNight> made, ToIntFunction<TypeAtNight> asked, long want) {
        refused(call, made, "", asked, want);
    }

    /** The same of a call that reads THE TEXT, which is empty then. */
    static void refused(String call, Supplier<TypeAtNight> made, String text, ToIntFunction<TypeAtNight> asked,
            long want) {
        TypeAtNight x = made.get();
        mark(x);
        String ahead = state(x);
        put(x, text);
        due(call + " of " + text, asked.applyAsInt(x), want);
        due("signs left by " + call + " of " + text, x.count(10), 0);
        due("state behind " + call + " of " + text, state(x), ahead);
    }

    /** A question: nothing changes but the ROW, which has these numbers then. */
    static void question(String call, Supplier<TypeAtNight> made, ToIntFunction<TypeAtNight> asked, long want,
            long... row) {
        question(call, made, "", asked, want, row);
    }

    /** The same of a question that reads THE TEXT, which is empty then. */
    static void question(String call, Supplier<TypeAtNight> made, String text, ToIntFunction<TypeAtNight> asked,
            long want, long... row) {
        TypeAtNight x = made.get();
        mark(x);
        String ahead = state(x);
        put(x, text);
        due(call + " of " + text, asked.applyAsInt(x), want);
        due("signs left by " + call + " of " + text, x.count(10), 0);
        row(call + " of " + text, x, row);
        mark(x);
        due("state behind " + call + " of " + text, state(x), ahead);
    }

    /** Ends the test: with 1 if an answer was wrong. */
    static void close(String name) {
        System.out.println(name + ": " + checked + " answers, " + wrong + " not as due");
        if (wrong != 0) {
            System.exit(1);
        }
    }
}
