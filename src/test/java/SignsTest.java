import java.util.function.ToIntFunction;

/**
 * Texts as long as they may be, with another sign at each place, or ending behind it: where they can't stand, by the
 * class and by the model of it.
 */
public final class SignsTest {
    /** Signs that stand somewhere in a text, those beside them, and some that stand nowhere. */
    private static final String SIGNS = "`abhi@AHINSMCF/01789:+,-*.<>=();mwlkn x\0\u007f\u0080\u00e1\u00ff";
    private static final String ELEVEN = "a0+4" + ";b9-2".repeat(10);
    private static final String TWELVE = "a0+4" + ";h9-2".repeat(11);
    private static final String PAIRS = "ab;ac;ad;ae;af;bc;bd;be;bf;cd;ce;cf;de;df;ef;ag;ah;bg;bh;gh";

    public static void main(String[] args) {
        read("4 sorts", "", TypeAtNight::sorts, Model::sorts, TWELVE, "h0-0");
        read("4 sorts with eleven", ELEVEN, TypeAtNight::sorts, Model::sorts, TWELVE, "h0-0");
        read("4 sorts with twelve", TWELVE, TypeAtNight::sorts, Model::sorts, "h0-0");
        String[] rules = {"(b/k-m)/2", "((((m+1)*2-3)/4<n)=(i>7))*(w-l)--100+200", "-".repeat(39) + "m",
            "m+w-l*k/b+i-n*(m<w)-(l>k)*123/(b=i)+---n", "1=" + "999*".repeat(9) + "99", "(((1)))<((((2))))"};
        read("5 rule", ELEVEN, TypeAtNight::rule, Model::rule, rules);
        read("42 law", "a0+1;b0-1", TypeAtNight::law, Model::law, rules);
        String[] texts = {"a", "abbbbbbbbbbb", "hgfedcbaabcd"};
        read("9 sets", ELEVEN, x -> x.sets(1), m -> m.sets(1), texts);
        read("16 tells", ELEVEN, TypeAtNight::tells, Model::tells, texts);
        read("17 often", ELEVEN, TypeAtNight::often, Model::often, texts);
        read("19 bears", "a0+1;b0-1", x -> x.bears(1), m -> m.bears(1), texts);
        read("20 spans", "a0+1;b0-1", TypeAtNight::spans, Model::spans, texts);
        read("39 reads", ELEVEN, x -> x.reads(3), m -> m.reads(3), texts);
        read("14 week", ELEVEN, TypeAtNight::week, Model::week, "N1S+2aM017C00F01", "S-9abbbbbbbbbbbN0S+0bM107C11F10N9",
                "N1".repeat(29) + "N2", "N1".repeat(28) + "S+1a", "C00F00".repeat(10), "M001M100".repeat(7) + "M017");
        read("21 packs", ELEVEN, TypeAtNight::packs, Model::packs, "a", "a;b;bb;bbb;c;d;h;ab", "a".repeat(60),
                "a;".repeat(7) + "b".repeat(46), "ab".repeat(29) + ";a");
        read("27 parts", ELEVEN, TypeAtNight::parts, Model::parts, "ab", PAIRS);
        Calls.close("SignsTest");
    }

    private static void read(String promise, String sorts, ToIntFunction<TypeAtNight> asked, ToIntFunction<Model> due,
            String... texts) {
        Calls.promise(promise);
        for (String text : texts) {
            for (int p = 0; p <= text.length(); p++) {
                same(text.substring(0, p), sorts, asked, due);
                for (char sign : SIGNS.toCharArray()) {
                    String ahead = text.substring(0, p) + sign;
                    same(ahead, sorts, asked, due);
                    same(ahead + text.substring(Math.min(text.length(), p + 1)), sorts, asked, due);
                    same(ahead + "a".repeat(80 - ahead.length()), sorts, asked, due);
                }
            }
        }
    }

    private static void same(String text, String sorts, ToIntFunction<TypeAtNight> asked, ToIntFunction<Model> due) {
        Model model = new Model();
        put(model, sorts);
        model.sorts();
        put(model, text);
        TypeAtNight x = Calls.put(Calls.with(sorts), text);
        Calls.due("the call of " + text, asked.applyAsInt(x), due.applyAsInt(model));
        Calls.due("SORTS behind " + text, x.count(0), model.count(0));
        Calls.due("numbers of the ROW behind " + text, x.count(9), model.count(9));
    }

    private static void put(Model model, String text) {
        model.end(0);
        for (int i = 0; i < text.length(); i += 4) {
            model.sign(Calls.fourOf(text, i));
        }
        model.end(text.length());
    }
}
