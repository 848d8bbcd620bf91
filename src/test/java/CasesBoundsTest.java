/** The bounds of what part 2 of the document says of cases, clauses and what follows, and of the promises that ask for it. */
public final class CasesBoundsTest {
    private static final Desk DESK = new Desk("CasesBoundsTest");
    private static final int NONE = -1;
    private static final int SPLIT = -2;
    private static final int[] FAR = {Integer.MIN_VALUE, -256, -2, -1, 256, 4096, Integer.MAX_VALUE};

    public static void main(String[] args) {
        oneWithoutTraits();
        howManyCases();
        traitNoughtCountsMost();
        wraps();
        cutAndRest();
        byNought();
        oneOrNought();
        ofWhatIsNotNought();
        appliesIfNotNought();
        overAsTold();
        overByLater();
        overByNarrow();
        overAnotherTree();
        whatTheyAllSay();
        noneAndSplit();
        overWhichNoneIs();
        onlyThoseInTheSet();
        paysNoughtByNoneAndSplit();
        traitCantBe();
        clauseThereIsNoneSuch();
        appliesCantBe();
        overCantBe();
        wideThereIsNoneSuch();
        followsCantBe();
        manyAndFirst();
        DESK.close();
    }

    private static void due(String call, long got, long want) {
        DESK.due(call, got, want);
    }

    /** CASES are all rows of values of TRAITS (one without TRAITS). */
    private static void oneWithoutTraits() {
        GraftedLaws x = DESK.good(1, "tree t;clause p on t says 4 set if 1;aim 6;");
        due("one case", x.about(1), 1);
        due("the clause applies to it", x.applies(0, 0), 1);
        due("it follows", x.follows(0, 0), 4);
        due("its aim", x.aim(0), 6);
        due("no trait", x.trait(0, 0), NONE);
        due("no second case", x.follows(0, 1), -3);
        due("an object has it at first", new GraftedLaws().about(1), 1);
    }

    private static void howManyCases() {
        for (int a = 2; a <= 4; a++) {
            DESK.good(a, "trait a " + a + ";");
            for (int b = 2; b <= 4; b++) {
                DESK.good(a * b, "trait a " + a + ";trait b " + b + ";");
                DESK.good(a * b * 4, "trait a " + a + ";trait b " + b + ";trait c 4;");
                DESK.good(a * b * 4 * 2, "trait a " + a + ";trait b " + b + ";trait c 4;trait d 2;");
            }
        }
        GraftedLaws x = DESK.good(256, "trait a 4;trait b 4;trait c 4;trait d 4;");
        due("256 at most", x.about(1), 256);
        for (int trait = 0; trait < 4; trait++) {
            due("the last case", x.trait(255, trait), 3);
            due("the first case", x.trait(0, trait), 0);
        }
        due("no 257th", x.trait(256, 0), NONE);
    }

    /** Numbered from 0 on, TRAIT 0 counting most. */
    private static void traitNoughtCountsMost() {
        GraftedLaws x = DESK.good(24, "trait a 2;trait b 4;trait c 3;");
        for (int kase = 0; kase < 24; kase++) {
            due("a of " + kase, x.trait(kase, 0), kase / 12);
            due("b of " + kase, x.trait(kase, 1), kase / 3 % 4);
            due("c of " + kase, x.trait(kase, 2), kase % 3);
        }
    }

    private static void aim(String formula, int want) {
        due("aim " + formula, Desk.grown("aim " + formula + ";").aim(0), want);
    }

    private static final String LEAST = "(2048*1024*1024)";
    private static final String MOST = "(2048*1024*1024-1)";

    /** Ints, wrapping. */
    private static void wraps() {
        aim(LEAST, Integer.MIN_VALUE);
        aim(MOST, Integer.MAX_VALUE);
        aim(MOST + "+1", Integer.MIN_VALUE);
        aim(LEAST + "-1", Integer.MAX_VALUE);
        aim("0-" + LEAST, Integer.MIN_VALUE);
        aim(MOST + "+" + MOST, -2);
        aim(LEAST + "*2", 0);
        aim(MOST + "*" + MOST, 1);
        aim("9999*9999*9999", 9999 * 9999 * 9999);
        aim(LEAST + "/(0-1)", Integer.MIN_VALUE);
        aim(LEAST + "%(0-1)", 0);
        aim(MOST + "<" + MOST + "+1", 0);
        aim(LEAST + "<" + MOST, 1);
        aim(MOST + ">" + LEAST, 1);
        aim(LEAST + ">" + MOST, 0);
        aim("0-1-1", -2);
        aim("1-(0-1)", 2);
    }

    /** / cut, % its rest. */
    private static void cutAndRest() {
        aim("7/2", 3);
        aim("(0-7)/2", -3);
        aim("7/(0-2)", -3);
        aim("(0-7)/(0-2)", 3);
        aim("1/2", 0);
        aim("(0-1)/2", 0);
        aim("7%2", 1);
        aim("(0-7)%2", -1);
        aim("7%(0-2)", 1);
        aim("(0-7)%(0-2)", -1);
        aim("(0-8)%2", 0);
        aim("9999/9999", 1);
        aim("9998/9999", 0);
        aim("9998%9999", 9998);
        aim("20/3*3+20%3", 20);
        aim("2*7/3", 4);
        aim("2*(7/3)", 4);
        aim("7/3*2", 4);
        aim("7%4*2", 6);
    }

    /** Both by 0: 0. */
    private static void byNought() {
        aim("7/0", 0);
        aim("7%0", 0);
        aim("0/0", 0);
        aim("0%0", 0);
        aim("(0-7)/0", 0);
        aim("(0-7)%0", 0);
        aim(LEAST + "/0", 0);
        aim(LEAST + "%0", 0);
        aim("5+7/(3-3)", 5);
        aim("5-7%(3<2)", 5);
        aim("7/1", 7);
        aim("7%1", 0);
    }

    /** Relations, and, or, not are 1 or 0. */
    private static void oneOrNought() {
        aim("2<3", 1);
        aim("3<3", 0);
        aim("4<3", 0);
        aim("4>3", 1);
        aim("3>3", 0);
        aim("2>3", 0);
        aim("3=3", 1);
        aim("2=3", 0);
        aim("4=3", 0);
        aim("5 and 7", 1);
        aim("5 or 7", 1);
        aim("0 or 7", 1);
        aim("7 or 0", 1);
        aim("0 or 0", 0);
        aim("0 and 7", 0);
        aim("7 and 0", 0);
        aim("0 and 0", 0);
        aim("not 0", 1);
        aim("not 7", 0);
        aim("not not 7", 1);
        aim("7", 7);
        aim("(7)", 7);
        aim("(2<3)+(5 and 7)+(not 0)+(0 or 4)", 4);
    }

    /** Of what is not 0. */
    private static void ofWhatIsNotNought() {
        aim("0-1 and 0-1", 1);
        aim("0-1 and 0", 0);
        aim("0-1 or 0", 1);
        aim("not 0-1", 0);
        aim("not 1-1", 1);
        aim(LEAST + " and 2", 1);
        aim("not " + LEAST, 0);
        aim(LEAST + "*2 or 0", 0);
        aim("not " + LEAST + "*2", 1);
        aim("2 and 4", 1);
        aim("256 and 512", 1);
        aim("1 or 0 and 0", 1);
        aim("(1 or 0) and 0", 0);
        aim("not 0 and 0", 0);
        aim("not (0 and 0)", 1);
        aim("not 1 or 1", 1);
        aim("not (1 or 1)", 0);
    }

    /** A CLAUSE APPLIES to a CASE, if its e is not 0. */
    private static void appliesIfNotNought() {
        String[] formulas = {"0", "1", "2", "0-1", LEAST, LEAST + "*2", "7/0", "1-1"};
        int[] wants = {0, 1, 1, 1, 1, 0, 0, 0};
        for (int i = 0; i < formulas.length; i++) {
            GraftedLaws x = Desk.grown("tree t;clause p on t says 1 if " + formulas[i] + ";");
            due("applies if " + formulas[i], x.applies(0, 0), wants[i]);
            due("wide if " + formulas[i], x.wide(0), wants[i]);
        }
        GraftedLaws x = Desk.grown("trait a 4;tree t;clause p on t says 1 if a-2;");
        for (int kase = 0; kase < 4; kase++) {
            due("below 0, 0, above 0", x.applies(0, kase), kase == 2 ? 0 : 1);
        }
        x = Desk.grown("aim 5+1;trait a 2;tree t;clause p on t says 1 if 0;clause q on t says 1 if a;clause r on t says 1 if 2-2*a;");
        int[] both = {0b00, 0b10, 0b01};
        for (int clause = 0; clause < 3; clause++) {
            due("each by its own e", x.applies(clause, 0), both[clause] & 1);
            due("each by its own e", x.applies(clause, 1), both[clause] >> 1);
        }
        due("the aim by its own", x.aim(1), 6);
    }

    /** One is OVER another one of its TREE, if it is told so. */
    private static void overAsTold() {
        GraftedLaws x = Desk.grown("tree t;clause p on t says 1 if 1;clause q on t says 2 over p if 0;clause r on t says 3 over q if 1;");
        int[] wants = {0, 0b001, 0b010};
        for (int clause = 0; clause < 3; clause++) {
            for (int other = 0; other < 3; other++) {
                due("told: over(" + clause + ", " + other + ")", x.over(clause, other), wants[clause] >> other & 1);
            }
        }
    }

    /** Or (later) was told behind it. */
    private static void overByLater() {
        String clauses = "clause p on t says 1 if 1;clause q on u says 2 if 1;clause r on t says 3 if 0;clause s on t says 3 if 1;";
        GraftedLaws x = Desk.grown("tree t later;tree u later;" + clauses);
        int[] wants = {0, 0, 0b0001, 0b0101};
        for (int clause = 0; clause < 4; clause++) {
            for (int other = 0; other < 4; other++) {
                due("later: over(" + clause + ", " + other + ")", x.over(clause, other), wants[clause] >> other & 1);
            }
        }
        x = Desk.grown("tree t;tree u later;" + clauses);
        due("a tree that is not later", x.over(2, 0), 0);
        x = Desk.grown("tree t narrow;tree u later;" + clauses);
        due("a tree that is narrow", x.over(3, 0), 0);
    }

    /** A formula that holds for just these of four cases. */
    private static String ofCases(int set) {
        StringBuilder text = new StringBuilder("0");
        for (int kase = 0; kase < 4; kase++) {
            if ((set >> kase & 1) != 0) {
                text.append(" or a=").append(kase);
            }
        }
        return text.toString();
    }

    /** Or (narrow) APPLIES to some of the CASES to which the other one does, not to all of these, and to no others. */
    private static void overByNarrow() {
        for (int set = 0; set < 16; set++) {
            for (int other = 0; other < 16; other++) {
                String clauses = "clause p on t says 1 if " + ofCases(set) + ";clause q on t says 2 if " + ofCases(other) + ";";
                GraftedLaws x = Desk.grown("trait a 4;tree t narrow;" + clauses);
                due("narrow: " + set + " over " + other, x.over(0, 1), isNarrower(set, other));
                due("narrow: " + other + " over " + set, x.over(1, 0), isNarrower(other, set));
            }
        }
        String clauses = "clause p on t says 1 if a;clause q on t says 2 if a=2;";
        due("a tree that is not narrow", Desk.grown("trait a 4;tree t;" + clauses).over(1, 0), 0);
        due("a later one", Desk.grown("trait a 4;tree t later;clause q on t says 2 if a=2;clause p on t says 1 if a;").over(0, 1), 0);
        GraftedLaws x = Desk.grown("trait a 4;tree t narrow;clause p on t says 1 if a;clause q on t says 2 over p if 1;");
        due("told so, though wider", x.over(1, 0), 1);
        due("and narrower", x.over(0, 1), 1);
    }

    private static int isNarrower(int set, int other) {
        boolean some = (set & other) != 0;
        boolean notAll = (other & ~set) != 0;
        boolean noOthers = (set & ~other) == 0;
        return some && notAll && noOthers ? 1 : 0;
    }

    /** Of itself, of another TREE: 0. */
    private static void overAnotherTree() {
        for (String manner : new String[] {"", " later", " narrow"}) {
            GraftedLaws x = Desk.grown("trait a 4;tree t" + manner + ";tree u" + manner
                + ";clause p on t says 1 if 1;clause q on u says 2 if a;clause r on t says 2 if a;");
            for (int clause = 0; clause < 3; clause++) {
                due("of itself", x.over(clause, clause), 0);
            }
            due("of another tree", x.over(1, 0), 0);
            due("of another tree", x.over(0, 1), 0);
            due("of another tree", x.over(2, 1), 0);
            due("of its tree", x.over(2, 0), manner.isEmpty() ? 0 : 1);
        }
    }

    /** What they all say. */
    private static void whatTheyAllSay() {
        due("one", Desk.grown("tree t;clause p on t says 7 set if 1;").follows(0, 0), 7);
        due("two", Desk.grown("tree t;clause p on t says 7 set if 1;clause q on t says 7 set if 1;").follows(0, 0), 7);
        due("0", Desk.grown("tree t;clause p on t says 0 set if 1;clause q on t says 0 set if 1;").follows(0, 0), 0);
        due("99", Desk.grown("tree t;clause p on t says 99 set if 1;").follows(0, 0), 99);
        StringBuilder twelve = new StringBuilder("tree t;");
        for (char c = 'a'; c <= 'l'; c++) {
            twelve.append("clause ").append(c).append(" on t says 5 set if 1;");
        }
        due("twelve", Desk.grown(twelve.toString()).follows(0, 0), 5);
        int last = twelve.lastIndexOf("says 5");
        due("the twelfth says another", Desk.grown(twelve.substring(0, last) + "says 6 set if 1;").follows(0, 0), SPLIT);
    }

    /** NONE, if there is none; SPLIT, if two say unlike VERDICTS. */
    private static void noneAndSplit() {
        due("no clause", Desk.grown("tree t;").follows(0, 0), NONE);
        due("none that applies", Desk.grown("tree t;clause p on t says 7 set if 0;").follows(0, 0), NONE);
        due("none that bears", Desk.grown("tree t;clause p on t says 7 if 1;").follows(0, 0), NONE);
        due("two", Desk.grown("tree t;clause p on t says 7 set if 1;clause q on t says 8 set if 1;").follows(0, 0), SPLIT);
        due("0 and another", Desk.grown("tree t;clause p on t says 0 set if 1;clause q on t says 8 set if 1;").follows(0, 0), SPLIT);
        due("another and 0", Desk.grown("tree t;clause p on t says 8 set if 1;clause q on t says 0 set if 1;").follows(0, 0), SPLIT);
        due("two of three", Desk.grown("tree t;clause p on t says 7 set if 1;clause q on t says 8 set if 1;clause r on t says 7 set if 1;")
            .follows(0, 0), SPLIT);
        due("the other one is of another tree", Desk.grown("tree t;tree u;clause p on t says 7 set if 1;clause q on u says 8 set if 1;")
            .follows(0, 0), 7);
        due("the other one does not apply", Desk.grown("tree t;clause p on t says 7 set if 1;clause q on t says 8 set if 0;").follows(0, 0), 7);
    }

    /** Those over which none of these is. */
    private static void overWhichNoneIs() {
        String three = "tree t;clause p on t says 1 set if 1;clause q on t says 2 set over p if 1;clause r on t says 3 set over q if 1;";
        due("one that is under another still is over a third", Desk.grown(three).follows(0, 0), 3);
        due("of two over it one is left", Desk.grown("tree t;clause p on t says 1 set if 1;clause q on t says 2 set over p if 1;"
            + "clause r on t says 3 set over p if 1;").follows(0, 0), SPLIT);
        GraftedLaws x = Desk.grown("trait a 2;tree t narrow;clause p on t says 1 set if a;clause q on t says 1 set over p if 1;");
        due("two over one another: none is left", x.follows(0, 1), NONE);
        due("but for the case of one alone", x.follows(0, 0), 1);
        x = Desk.grown("trait a 2;tree t narrow;clause p on t says 1 set if a;clause q on t says 1 set over p if 1;clause r on t says 5 set if a;");
        due("q is over p, both p and r over q: r is left", x.follows(0, 1), 5);
    }

    /** Of its CLAUSES in the set that APPLY: what is not in it, or does not apply, is over none. */
    private static void onlyThoseInTheSet() {
        GraftedLaws x = Desk.grown("trait a 2;tree t;clause p on t says 1 set if 1;clause q on t says 2 over p if 1;clause r on t says 3 set over p if a;");
        due("q does not bear", x.follows(0, 0), 1);
        due("r applies", x.follows(0, 1), 3);
        x.graft(1);
        due("q is in, but does not bear", x.follows(0, 0), 1);
        x.year();
        due("q bears", x.follows(0, 0), 2);
        due("q and r", x.follows(0, 1), SPLIT);
        x.prune(1);
        due("q is out", x.follows(0, 0), 1);
    }

    /** One PAYS that VERDICT, 0 by NONE, SPLIT. */
    private static void paysNoughtByNoneAndSplit() {
        GraftedLaws x = Desk.grown("trait a 4;tree t;clause p on t says 0 set if a=1;clause q on t says 5 set if a>1;clause r on t says 6 set if a=2;aim 5;");
        due("none", x.follows(0, 0), NONE);
        due("0", x.follows(0, 1), 0);
        due("split", x.follows(0, 2), SPLIT);
        due("all pay 5", x.gains(0), 15);
        due("three pay less than 5", x.holes(0, 0), 3);
        due("the greatest gain is 5", x.holes(0, 2), 5);
        due("none pays as little as 0 does", x.evade(0, 0), NONE);
        due("so does split", x.evade(0, 2), NONE);
        due("from 5 to none", x.evade(0, 3), 0);
        due("all together", x.parties(1, 1, 0), NONE);
        x = Desk.grown("trait a 4;tree t;clause p on t says 0 set if a=1;clause q on t says 5 set if a>1;clause r on t says 6 set if a=2;");
        due("all together", x.parties(0, 1, 0), 5);
    }

    /** Promise 6: NONE if one can't be. */
    private static void traitCantBe() {
        GraftedLaws x = Desk.grown("trait a 2;trait b 3;");
        due("the last case", x.trait(5, 0), 1);
        due("no case", x.trait(6, 0), NONE);
        due("the last trait", x.trait(5, 1), 2);
        due("no trait", x.trait(5, 2), NONE);
        due("no trait, though there may be four", x.trait(0, 3), NONE);
        for (int far : FAR) {
            due("no case", x.trait(far, 0), NONE);
            due("no trait", x.trait(0, far), NONE);
            due("neither", x.trait(far, far), NONE);
        }
    }

    /** Promise 7: -2 if there is none such, or for another what. */
    private static void clauseThereIsNoneSuch() {
        GraftedLaws x = Desk.grown("tree t;tree u;clause p on t says 7 set if 1;clause q on u says 8 if 1;");
        int[][] wants = {{0, 7, 1, 1, 0, NONE}, {1, 8, 0, 0, NONE, NONE}};
        for (int what = 0; what <= 5; what++) {
            due("clause(0, " + what + ")", x.clause(0, what), wants[0][what]);
            due("clause(1, " + what + ")", x.clause(1, what), wants[1][what]);
            due("clause(2, " + what + ")", x.clause(2, what), -2);
            due("clause(-1, " + what + ")", x.clause(-1, what), -2);
            for (int far : FAR) {
                due("clause(" + far + ", " + what + ")", x.clause(far, what), -2);
            }
        }
        due("clause(0, 6)", x.clause(0, 6), -2);
        due("clause(0, -1)", x.clause(0, -1), -2);
        for (int far : FAR) {
            due("clause(0, " + far + ")", x.clause(0, far), -2);
        }
        due("no clause at all", new GraftedLaws().clause(0, 0), -2);
    }

    /** Promise 8: NONE if one can't be. */
    private static void appliesCantBe() {
        GraftedLaws x = Desk.grown("trait a 3;tree t;clause p on t says 7 if 1;clause q on t says 8 if 0;");
        due("the last clause, the last case", x.applies(1, 2), 0);
        due("the first clause, the last case", x.applies(0, 2), 1);
        due("no clause", x.applies(2, 0), NONE);
        due("no case", x.applies(0, 3), NONE);
        for (int far : FAR) {
            due("no clause", x.applies(far, 0), NONE);
            due("no case", x.applies(0, far), NONE);
        }
    }

    /** Promise 9: NONE if one can't be. */
    private static void overCantBe() {
        GraftedLaws x = Desk.grown("tree t;clause p on t says 7 if 1;clause q on t says 8 over p if 1;");
        due("the last clause", x.over(1, 0), 1);
        due("no clause", x.over(2, 0), NONE);
        due("no other", x.over(0, 2), NONE);
        due("neither, though of itself", x.over(2, 2), NONE);
        for (int far : FAR) {
            due("no clause", x.over(far, 0), NONE);
            due("no other", x.over(0, far), NONE);
            due("neither", x.over(far, far), NONE);
        }
    }

    /** Promise 10: NONE if there is none such. */
    private static void wideThereIsNoneSuch() {
        GraftedLaws x = Desk.grown("trait a 4;trait b 4;trait c 4;trait d 4;tree t;clause p on t says 7 if 0;clause q on t says 8 if 1;clause r on t says 1 if a+b+c+d=12;");
        due("no case", x.wide(0), 0);
        due("all", x.wide(1), 256);
        due("the last alone", x.wide(2), 1);
        due("none such", x.wide(3), NONE);
        for (int far : FAR) {
            due("none such", x.wide(far), NONE);
        }
    }

    /** Promise 11: NONE, SPLIT; -3 if one can't be. */
    private static void followsCantBe() {
        GraftedLaws x = Desk.grown("trait a 3;tree t;tree u;clause p on u says 7 set if a<2;clause q on u says 8 set if a=0;");
        due("split", x.follows(1, 0), SPLIT);
        due("a verdict", x.follows(1, 1), 7);
        due("none", x.follows(1, 2), NONE);
        due("no case", x.follows(1, 3), -3);
        due("no tree", x.follows(2, 0), -3);
        for (int far : FAR) {
            due("no case", x.follows(1, far), -3);
            due("no tree", x.follows(far, 0), -3);
        }
        due("no tree at all", new GraftedLaws().follows(0, 0), -3);
    }

    /** Promises 12 and 13: NONE if one can't be; NONE if there is none, or one can't be. */
    private static void manyAndFirst() {
        GraftedLaws x = Desk.grown("trait a 4;tree t;tree u;clause p on t says 7 set if a=2 or a=1;clause q on t says 0 set if a>1;");
        int[] many = {2, 1, 1};
        int[] first = {1, 0, 2};
        for (int what = 0; what <= 2; what++) {
            due("many(0, " + what + ")", x.many(0, what), many[what]);
            due("first(0, " + what + ")", x.first(0, what), first[what]);
            due("many(2, " + what + ")", x.many(2, what), NONE);
            due("first(2, " + what + ")", x.first(2, what), NONE);
            for (int far : FAR) {
                due("many(" + far + ", " + what + ")", x.many(far, what), NONE);
                due("first(" + far + ", " + what + ")", x.first(far, what), NONE);
            }
        }
        due("none with a verdict", x.many(1, 0), 0);
        due("there is none", x.first(1, 0), NONE);
        due("all are none", x.many(1, 1), 4);
        due("the first of all", x.first(1, 1), 0);
        due("none is split", x.many(1, 2), 0);
        due("there is none", x.first(1, 2), NONE);
        for (int what : new int[] {3, -1, -2, -3, Integer.MIN_VALUE, Integer.MAX_VALUE}) {
            due("many(0, " + what + ")", x.many(0, what), NONE);
            due("first(0, " + what + ")", x.first(0, what), NONE);
        }
        x = Desk.grown("trait a 4;tree t;clause p on t says 7 set if a=3;");
        due("the last case", x.first(0, 0), 3);
    }
}
