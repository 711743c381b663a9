import java.util.function.Supplier;

/** Edges of THE RULE, which the first of the "Terms" names. */
final class EdgesOfRules {
    private static final Supplier<TypeAtNight> FOUR = () -> Calls.with("b3+5;b1-4;b0+2;d7-1", "7");

    private EdgesOfRules() {
    }

    static void all(Document doc) {
        ruleAtFirst(doc);
        comparisons(doc);
        sums(doc);
        products(doc);
        minus(doc);
        numbers(doc);
        brackets(doc);
        othersInBox(doc);
        numberAndNight(doc);
        asInts(doc);
    }

    /** Rules and the TURNS of the first SORT by them: LETTER b, WEAR 3, MOOD 5, two others of MOODS -2 in its BOX. */
    private static void turns(Object... rulesAndTurns) {
        TypeAtNight x = FOUR.get();
        for (int j = 0; j + 1 < rulesAndTurns.length; j += 2) {
            String rule = (String) rulesAndTurns[j];
            Calls.due("rule of " + rule, Calls.put(x, rule).rule(), 0);
            Calls.due("TURN by " + rule, x.sort(0, 5) - 10, ((Integer) rulesAndTurns[j + 1]).longValue());
        }
    }

    private static void faults(Object... rulesAndPlaces) {
        Calls.faults("rule", FOUR, TypeAtNight::rule, -1, rulesAndPlaces);
    }

    private static void ruleAtFirst(Document doc) {
        doc.terms("THE RULE is a text of at most 40 signs (at first none: (b/k-m)/2).");
        // One alone has no others, so b by k is 0.
        Calls.each("TURN at first", Calls.with("a0+9;a0-4;b0+5;c0-5;d0+1"), 5, 10 - 6, 10 + 6, 10 - 2, 10 + 2, 10);
        Calls.each("TURN at first, three in a BOX", Calls.with("a0+9;a0-4;a0-3"), 5, 10 - 6, 10 + 3, 10 + 2);
        turns("(b/k-m)/2", -3);
        String thirtyNine = "m" + "+0".repeat(19);
        turns(thirtyNine, 5, "-" + thirtyNine, -5);
        faults("--" + thirtyNine, 40);
    }

    private static void comparisons(Document doc) {
        doc.terms("EXPRESSION: < > = bind least (two; 1 or 0; not one behind the other)");
        turns("1<2", 1, "2<2", 0, "3<2", 0, "2>1", 1, "2>2", 0, "2>3", 0, "2=2", 1, "2=3", 0, "3=2", 0);
        turns("1+0<1", 0, "5=5+1", 0, "1>0*9", 1, "4-3=1", 1, "-1<0", 1);
        turns("(1<2)<2", 1, "2>(2>1)", 1, "(1<2)=(2<3)", 1);
        faults("1<2<3", 3, "1<2>3", 3, "1=1=1", 3, "1>2=0", 3, "1<2+3<4", 5, "(1<2<3)", 4, "0+(1=2)=1=0", 9, "1<", 2,
                "<1", 0, "1<<2", 2, "1<=2", 2);
    }

    private static void sums(Document doc) {
        doc.terms("then + - (from the left)");
        turns("7-2-1", 4, "7-2+1", 6, "1-2+3-4", -2, "9-3*2", 3, "3*2-9", -3);
        faults("+1", 0, "1+", 2, "1++2", 2, "1-+2", 2, "1+", 2, "1-", 2);
    }

    private static void products(Document doc) {
        doc.terms("then * / (from the left; by 0: 0; cut to 0)");
        turns("8/2/2", 2, "8/4*2", 4, "3*5/2", 7, "9/2*2", 8);
        turns("7/0", 0, "0/0", 0, "-7/0", 0, "7/(m-5)", 0, "7/0+1", 1, "7/(b+2)*3", 0);
        turns("7/2", 3, "-7/2", -3, "7/-2", -3, "-7/-2", 3, "(0-1)/2", 0, "1/2", 0);
        faults("*1", 0, "/1", 0, "1*", 2, "1/", 2, "1**2", 2, "1//2", 2, "1*+2", 2);
    }

    private static void minus(Document doc) {
        doc.terms("then - ahead of a thing (any many)");
        turns("-5", -5, "--5", 5, "---5", -5, "-".repeat(38) + "5", 5, "-".repeat(39) + "5", -5);
        turns("2*-3", -6, "-2*-3", 6, "0--3", 3, "0---3", -3, "-m-m", -9, "-(m-3)", -2, "-2+5", 3, "1<-2", 0,
                "-2<1", 1);
        faults("-", 1, "--", 2, "(-", 2, "(-)", 2, "-*2", 1, "-+2", 1);
    }

    private static void numbers(Document doc) {
        doc.terms("a NUMBER of 1 to 3 digits");
        turns("5", 5, "05", 5, "005", 5, "0", 0, "000", 0, "100-93", 7, "999-992", 7, "99-91", 8);
        faults("0005", 3, "1000", 3, "1+1000", 5, "12m", 2, "(1234)", 4);
    }

    private static void brackets(Document doc) {
        doc.terms("an EXPRESSION in ( ) (at most 4 in one another)");
        turns("((((5))))", 5, "-(-(-(-(5))))", 5, "((((1))))+((((2))))", 3, "(1+(1+(1+(1+1))))", 5,
                "(((1))+(((1))))", 2, "((((5)+(1))))", 6);
        faults("(((((5)))))", 4, "((((5+(1)))))", 6, "1+(2+(3+(4+(5+(6", 14);
        faults("()", 1, "(", 1, "((((", 4, "(5", 2, "((5)", 4, "5)", 1, "(5))", 3, "(5)(5)", 3, "2(5)", 1, "(5)2", 3);
    }

    private static void othersInBox(Document doc) {
        doc.terms("and, of a SORT: m MOOD, w WEAR, l its LETTER, k how many others are in its BOX, b MOODS of these "
                + "together, i its number");
        turns("m", 5, "w", 3, "l", 1, "k", 2, "b", -2, "i", 0);
        TypeAtNight alone = Calls.with("h9-9;a0+3", "k=0");
        Calls.due("k of one alone", alone.sort(0, 5), 11);
        Calls.put(alone, "b=0").rule();
        Calls.due("b of one alone", alone.sort(0, 5), 11);
        Calls.put(alone, "(m=-9)+(w=9)*2+(l=7)*4").rule();
        Calls.due("the greatest LETTER and WEAR, the least MOOD", alone.sort(0, 5), 17);
        TypeAtNight twelve = Calls.with("a0-9" + ";a0-9".repeat(11), "(k=11)+(b=-99)*2+(i=11)*4");
        Calls.due("k and b of the first of twelve", twelve.sort(0, 5), 13);
        Calls.due("i of the last of twelve", twelve.sort(11, 5), 17);
        faults("a", 0, "M", 0, "mm", 1, "m w", 1, " m", 0, "j", 0, "c", 0, "x", 0, "m;", 1);
    }

    private static void numberAndNight(Document doc) {
        doc.terms("n NIGHT by 7 (rest)");
        TypeAtNight x = Calls.with("a0+0", "n");
        for (int night = 0; night <= 15; night++) {
            Calls.due("n behind " + night, x.sort(0, 5) - 10, night % 7);
            x.nights(1);
        }
    }

    private static void asInts(Document doc) {
        doc.terms("As ints, put to -9 .. 9: TURN.");
        turns("8", 8, "9", 9, "10", 9, "999", 9, "-8", -8, "-9", -9, "-10", -9, "-999", -9);
        // 999 * 999 * 999 * 3 goes beyond the greatest int; 512 * 512 * 512 * 16 comes out as the least, also by -1.
        turns("999*999*999*2", 9, "999*999*999*3", -9, "512*512*512*16", -9, "512*512*512*16-1", 9);
        turns("512*512*512*16/-1", -9, "-(512*512*512*16)", -9, "512*512*512*32", 0, "512*512*512*16<0", 1);
    }
}
