/** The bounds of part 3 of the document: fruit, wishes, least, pith, loopholes, evading, reach, parties, what lies there. */
public final class SearchBoundsTest {
    private static final Desk DESK = new Desk("SearchBoundsTest");
    private static final int NONE = -1;
    private static final int SPLIT = -2;
    private static final int[] FAR = {Integer.MIN_VALUE, -256, -2, -1, 12, 32, 256, 4096, Integer.MAX_VALUE};

    public static void main(String[] args) {
        ifItBoreOrDidNot();
        fortyCasesOfFruit();
        fruitOfNoneSuch();
        twentyWishes();
        wishCantBe();
        hushes();
        leastOfLikeOnes();
        leastCantBe();
        wishesOfNoneAndSplit();
        pithOfLikeOnes();
        pithOfNoSuchTree();
        aimOfNoneSuch();
        loopholesPayLess();
        holesCantBe();
        gainsTogether();
        mendsMost();
        mendIsLessThanNow();
        evadesWithTheFewest();
        evadeCantBe();
        unlikeTrees();
        fortyUnlikeCases();
        reachOfWhatIsSo();
        reachAsInEarnest();
        reachClauseByClause();
        reachCantBe();
        reachIsLong();
        partiesByTurns();
        likeOnesAndNone();
        partiesCantBe();
        lies();
        DESK.close();
    }

    private static void due(String call, long got, long want) {
        DESK.due(call, got, want);
    }

    private static void due(String call, boolean got, boolean want) {
        DESK.due(call, got, want);
    }

    /** CASES for which something else would FOLLOW on its TREE, if it BORE (it did not, if it does). */
    private static void ifItBoreOrDidNot() {
        GraftedLaws x = Desk.grown("trait a 4;tree t;tree u;clause p on t says 1 set if a<3;clause q on t says 2 if a>0;clause r on t says 1 if 1;"
            + "clause o on u says 9 if 1;clause s on t says 1 set if 0;bears 2;");
        due("from a verdict to none", x.fruit(0), 3);
        DESK.lie("fruit(0)", x, 0, 1, 2);
        due("to a split, to a verdict", x.fruit(1), 3);
        DESK.lie("fruit(1)", x, 1, 2, 3);
        due("to a verdict, where there was none", x.fruit(2), 1);
        DESK.lie("fruit(2)", x, 3);
        due("on its tree", x.fruit(3), 4);
        due("of one that applies to none", x.fruit(4), 0);
        DESK.lie("fruit(4)", x);
        x.graft(1);
        due("in, but it does not bear: if it did", x.fruit(1), 3);
        x.year();
        x.year();
        due("it bears: if it did not", x.fruit(1), 3);
        due("from a split to a verdict", x.fruit(0), 3);
        DESK.lie("fruit(0)", x, 0, 1, 2);
        due("nothing else", x.fruit(4), 0);
        due("nothing is done", x.about(7), 3);
    }

    private static String cases(int many) {
        return "trait a 4;trait b 4;trait c 4;tree t;tree u;clause p on t says 1 if a*16+b*4+c+1>" + (64 - many) + ";bears 0;";
    }

    /** Promise 21: the first 40 lie there then. */
    private static void fortyCasesOfFruit() {
        for (int many = 38; many <= 43; many++) {
            GraftedLaws x = Desk.grown(cases(many));
            due("fruit", x.fruit(0), many);
            due("how many lie there", x.about(14), Math.min(many, 40));
            for (int i = 0; i < 45; i++) {
                due("lies(" + i + ") of " + many, x.lies(i), i < many && i < 40 ? 64 - many + i : NONE);
            }
        }
        GraftedLaws x = Desk.grown(cases(0));
        due("none", x.fruit(0), 0);
        DESK.lie("none", x);
        x = Desk.grown(cases(64));
        due("all", x.fruit(0), 64);
        due("forty", x.about(14), 40);
    }

    /** Promise 21: NONE if there is no such CLAUSE (behind NONE: nothing). */
    private static void fruitOfNoneSuch() {
        GraftedLaws x = Desk.grown(cases(5));
        for (int far : FAR) {
            due("the first one", x.fruit(0), 5);
            due("no such clause", x.fruit(far), NONE);
            DESK.lie("nothing", x);
        }
        x.fruit(0);
        due("no second clause", x.fruit(1), NONE);
        DESK.lie("nothing", x);
    }

    /** WISHES, 20 at most; promise 22: NONE, doing nothing, if there are 20. */
    private static void twentyWishes() {
        GraftedLaws x = Desk.grown("trait a 4;tree t;clause p on t says 5 if a<3;clause q on t says 6 if a=3;");
        for (int n = 1; n <= 19; n++) {
            due("wish " + n, x.wish(0, 5), n);
        }
        due("the twentieth", x.wish(3, 6), 20);
        due("it counts", x.least(0), 0b11);
        due("no other", x.wish(3, 7), NONE);
        due("no other, the same", x.wish(0, 5), NONE);
        due("twenty", x.about(9), 20);
        due("the others count as they did", x.least(0), 0b11);
        due("hush", x.hush(), 20);
        due("room again", x.wish(3, 6), 1);
        due("this alone counts", x.least(0), 0b10);
    }

    /** Promise 22: NONE, doing nothing, if one can't be (a VERDICT -2 .. 99). */
    private static void wishCantBe() {
        GraftedLaws x = Desk.grown("trait a 3;tree t;");
        due("a verdict 0", x.wish(0, 0), 1);
        due("a verdict 99", x.wish(2, 99), 2);
        due("none", x.wish(2, -1), 3);
        due("split", x.wish(2, -2), 4);
        due("a verdict 100", x.wish(0, 100), NONE);
        due("a verdict -3", x.wish(0, -3), NONE);
        due("no case", x.wish(3, 0), NONE);
        due("no case", x.wish(-1, 0), NONE);
        for (int far : new int[] {Integer.MIN_VALUE, -256, 256, Integer.MAX_VALUE}) {
            due("no case", x.wish(far, 0), NONE);
            due("no verdict", x.wish(0, far), NONE);
        }
        due("nothing was done", x.about(9), 4);
        x = new GraftedLaws();
        due("without trees, too", x.wish(0, 0), 1);
    }

    /** Promise 23: there are no WISHES: how many there were. */
    private static void hushes() {
        GraftedLaws x = Desk.grown("tree t;");
        due("none", x.hush(), 0);
        x.wish(0, 5);
        due("it can't be", x.least(0), NONE);
        due("one", x.hush(), 1);
        due("none is left", x.about(9), 0);
        due("without wishes", x.least(0), 0);
        due("none", x.hush(), 0);
    }

    /** The fewest of its CLAUSES more that BEAR, by which all WISHES FOLLOW; of like ones the least set (as bits). */
    private static void leastOfLikeOnes() {
        GraftedLaws x = Desk.grown("trait a 4;tree t;tree u;clause p on t says 5 if a<2;clause o on u says 5 if 1;clause q on t says 5 if a=2;"
            + "clause r on t says 5 if a=0 or a=2;clause s on t says 5 if a=1;clause v on t says 5 if a<3;bears 2;");
        due("without wishes", x.least(0), 0);
        x.wish(0, 5);
        due("the first of three", x.least(0), 0b000001);
        x.wish(2, 5);
        due("of two by one the least", x.least(0), 0b001000);
        x.wish(1, 5);
        due("one rather than two of less", x.least(0), 0b100000);
        due("of another tree", x.least(1), 0b000010);
        x.wish(3, NONE);
        due("it follows already", x.least(0), 0b100000);
        due("it can't be there", x.least(1), NONE);
        x.graft(0);
        due("in, but it does not bear", x.least(0), 0b100000);
        x.year();
        x.year();
        due("one more: of two the least", x.least(0), 0b000100);
        due("only those that are more", x.least(0) & 1, 0);
        x.graft(2);
        x.year();
        x.year();
        due("none more", x.least(0), 0);
        StringBuilder twelve = new StringBuilder("trait a 4;trait b 3;tree t;");
        for (int c = 0; c < 12; c++) {
            twelve.append("clause c").append((char) ('a' + c)).append(" on t says 7 if a*3+b=").append(c).append(";");
        }
        x = Desk.grown(twelve.toString());
        for (int kase = 0; kase < 12; kase++) {
            x.wish(kase, 7);
        }
        due("all twelve", x.least(0), 4095);
        x.hush();
        x.wish(11, 7);
        due("the last", x.least(0), 2048);
    }

    /** Promise 24: NONE if it can't be, or there is no such TREE. */
    private static void leastCantBe() {
        GraftedLaws x = Desk.grown("trait a 2;tree t;clause p on t says 5 set if 1;clause q on t says 6 over p if a;");
        x.wish(0, 5);
        due("it follows", x.least(0), 0);
        due("no such tree", x.least(1), NONE);
        for (int far : FAR) {
            due("no such tree", x.least(far), NONE);
        }
        x.wish(1, 6);
        due("one more", x.least(0), 0b10);
        x.wish(1, 5);
        due("both can't be", x.least(0), NONE);
        x.hush();
        x.wish(0, NONE);
        due("what bears stays", x.least(0), NONE);
        due("nothing is done", x.about(7), 0);
    }

    /** A VERDICT (NONE, SPLIT too) is wished. */
    private static void wishesOfNoneAndSplit() {
        GraftedLaws x = Desk.grown("trait a 2;tree t narrow;clause p on t says 5 set if a;clause q on t says 6 if a;clause r on t says 5 over p if 1;");
        x.wish(1, SPLIT);
        due("a split", x.least(0), 0b010);
        x.hush();
        x.wish(1, NONE);
        due("none, by two over one another", x.least(0), 0b100);
        x.hush();
        x.wish(0, NONE);
        due("none already", x.least(0), 0);
        x.hush();
        x.wish(0, SPLIT);
        due("it can't be", x.least(0), NONE);
    }

    /** The fewest of its CLAUSES that BEAR by which for all CASES the same FOLLOWS; of like ones the least set. */
    private static void pithOfLikeOnes() {
        GraftedLaws x = Desk.grown("trait a 4;tree t;tree u;clause p on t says 5 set if a<2;clause o on u says 5 set if 0;clause q on t says 5 set if a>1;"
            + "clause r on t says 5 set if a>0;clause s on t says 5 set if a<3;clause v on t says 5 if 1;bears 0;");
        due("two of the least numbers", x.pith(0), 0b000101);
        due("one that applies to none", x.pith(1), 0);
        x.prune(0);
        due("two others", x.pith(0), 0b010100);
        x.prune(2);
        due("the last two", x.pith(0), 0b011000);
        x.graft(5);
        due("one alone", x.pith(0), 0b100000);
        x = Desk.grown("trait a 2;tree t;clause p on t says 5 set if 1;clause q on t says 6 set if a;clause r on t says 6 set if a;");
        due("a split stays one", x.pith(0), 0b011);
        x = Desk.grown("trait a 2;tree t narrow;clause p on t says 5 set if a;clause q on t says 5 set over p if 1;");
        due("none stays none", x.pith(0), 0b11);
        x = Desk.grown("trait a 2;tree t later;clause p on t says 5 set if a;clause q on t says 6 set if 1;clause r on t says 5 if 1;bears 1;");
        due("what is under another is none of it", x.pith(0), 0b010);
        x.graft(2);
        due("what does not bear is none of it", x.pith(0), 0b010);
        x.year();
        due("now it does", x.pith(0), 0b100);
        StringBuilder twelve = new StringBuilder("trait a 4;trait b 3;tree t;");
        for (int c = 0; c < 12; c++) {
            twelve.append("clause c").append((char) ('a' + c)).append(" on t says 7 set if a*3+b=").append(c).append(";");
        }
        due("all twelve", Desk.grown(twelve.toString()).pith(0), 4095);
    }

    /** Promise 25: NONE if there is no such TREE. */
    private static void pithOfNoSuchTree() {
        GraftedLaws x = Desk.grown("tree t;tree u;");
        due("a bare tree", x.pith(1), 0);
        due("no such tree", x.pith(2), NONE);
        for (int far : FAR) {
            due("no such tree", x.pith(far), NONE);
        }
    }

    /** The AIM of a CASE is what comes of aim (0 without); promise 26: 0 if there is none such. */
    private static void aimOfNoneSuch() {
        GraftedLaws x = Desk.grown("trait a 3;aim 5-a*5;");
        due("above 0", x.aim(0), 5);
        due("0", x.aim(1), 0);
        due("below 0", x.aim(2), -5);
        due("none such", x.aim(3), 0);
        for (int far : FAR) {
            due("none such", x.aim(far), 0);
        }
        x = Desk.grown("trait a 3;");
        due("without", x.aim(0), 0);
        due("without", x.aim(2), 0);
    }

    /** A LOOPHOLE: a CASE that PAYS less than its AIM; its GAIN is how much less. */
    private static void loopholesPayLess() {
        for (int aim = 0; aim <= 8; aim++) {
            GraftedLaws x = Desk.grown("tree t;clause p on t says 4 set if 1;aim " + aim + ";");
            int gain = Math.max(0, aim - 4);
            due("one, if it pays less than " + aim, x.holes(0, 0), gain > 0 ? 1 : 0);
            due("which", x.holes(0, 1), gain > 0 ? 0 : NONE);
            due("its gain", x.holes(0, 2), gain);
            due("all gains", x.gains(0), gain);
        }
        GraftedLaws x = Desk.grown("tree t;clause p on t says 4 set if 1;aim 2048*1024*1024;");
        due("far below 0", x.holes(0, 0), 0);
        due("far below 0", x.gains(0), 0);
        x = Desk.grown("tree t;clause p on t says 4 set if 1;aim 2048*1024*1024-1;");
        due("the greatest", x.holes(0, 2), Integer.MAX_VALUE - 4);
        x = Desk.grown("tree t;aim 2048*1024*1024-1;");
        due("the greatest of all", x.holes(0, 2), Integer.MAX_VALUE);
        due("the greatest of all", x.gains(0), Integer.MAX_VALUE);
        x = Desk.grown("tree t;aim 0;");
        due("0 pays 0", x.holes(0, 0), 0);
        x = Desk.grown("tree t;aim 1;");
        due("none pays 0", x.holes(0, 0), 1);
    }

    /** Promise 27: that of the greatest GAIN (of like ones the first; NONE), this GAIN (0); NONE if one can't be. */
    private static void holesCantBe() {
        GraftedLaws x = Desk.grown("trait a 4;tree t;aim (a=1)*3+(a=2)*5+(a=3)*5;");
        due("how many", x.holes(0, 0), 3);
        due("of like ones the first", x.holes(0, 1), 2);
        due("its gain", x.holes(0, 2), 5);
        x = Desk.grown("trait a 4;tree t;tree u;clause p on u says 9 set if 1;aim a=3;");
        due("the last case", x.holes(0, 1), 3);
        due("none", x.holes(1, 0), 0);
        due("none", x.holes(1, 1), NONE);
        due("none", x.holes(1, 2), 0);
        for (int what = 0; what <= 2; what++) {
            due("no tree", x.holes(2, what), NONE);
            for (int far : FAR) {
                due("no tree", x.holes(far, what), NONE);
            }
        }
        due("no what", x.holes(0, 3), NONE);
        for (int far : FAR) {
            due("no what", x.holes(0, far), NONE);
        }
    }

    /** Promise 28: all GAINS on a TREE together; NONE if there is no such TREE. */
    private static void gainsTogether() {
        GraftedLaws x = Desk.grown("trait a 4;trait b 4;trait c 4;trait d 4;tree t;aim 2048*1024*1024-1;");
        due("beyond ints", x.gains(0), 256L * Integer.MAX_VALUE);
        due("no such tree", x.gains(1), NONE);
        for (int far : FAR) {
            due("no such tree", x.gains(far), NONE);
        }
        x = Desk.grown("trait a 4;tree t;aim a-2;");
        due("those that are none take nothing away", x.gains(0), 1);
        x = Desk.grown("trait a 4;tree t;");
        due("without an aim", x.gains(0), 0);
    }

    /** The one of its CLAUSES that do not BEAR by which, if it BORE, all GAINS together would be least; of like ones the first. */
    private static void mendsMost() {
        GraftedLaws x = Desk.grown("trait a 4;tree t;tree u;clause o on u says 99 if 1;clause p on t says 2 if a=0;clause q on t says 3 if a=1;"
            + "clause r on t says 3 if a=2;clause s on t says 9 if a=3;aim 3;bears 1;");
        due("of like ones the first", x.mend(0), 2);
        due("of its tree", x.mend(1), 0);
        x.graft(2);
        due("in, but it does not bear", x.mend(0), 2);
        x.year();
        due("the next", x.mend(0), 3);
        x.graft(3);
        x.year();
        due("9 mends no more than 3", x.mend(0), 4);
        x.graft(4);
        x.year();
        due("the one that mends a little", x.mend(0), 1);
        x.graft(1);
        x.year();
        due("none is left", x.mend(0), NONE);
        due("there is a gain left", x.gains(0), 1);
        x = Desk.grown("trait a 4;trait b 4;trait c 4;trait d 4;tree t;clause p on t says 1 if 1;clause q on t says 2 if 1;aim 2048*1024*1024-1;");
        due("beyond ints", x.mend(0), 1);
    }

    /** And less than now; promise 29: NONE if there is none, or no such TREE. */
    private static void mendIsLessThanNow() {
        GraftedLaws x = Desk.grown("tree t;tree u;clause p on t says 3 set if 1;clause q on t says 3 if 1;clause r on t says 4 if 1;clause s on t says 2 over p if 1;aim 9;");
        due("the same, a split and less are no better", x.mend(0), NONE);
        due("a bare tree", x.mend(1), NONE);
        due("no such tree", x.mend(2), NONE);
        for (int far : FAR) {
            due("no such tree", x.mend(far), NONE);
        }
        x = Desk.grown("tree t;clause p on t says 3 set if 1;clause q on t says 4 over p if 1;aim 9;");
        due("one less", x.mend(0), 1);
        x = Desk.grown("tree t;clause p on t says 3 set if 1;clause q on t says 4 over p if 1;aim 3;");
        due("without gains", x.mend(0), NONE);
        x = Desk.grown("tree t;clause p on t says 0 if 1;clause q on t says 1 if 1;aim 1;");
        due("0 is no less than none", x.mend(0), 1);
    }

    /** From a CASE to that which PAYS less, with the fewest TRAITS changed; of like ones that which PAYS least, of these the first. */
    private static void evadesWithTheFewest() {
        GraftedLaws x = Desk.grown("trait a 3;trait b 3;trait c 2;tree t;clause p on t says 9 set if 1;clause q on t says 8 set over p if a=2 and b=2 and c=1;");
        due("three traits changed", x.evade(0, 0), 17);
        due("from there", x.evade(0, 17), NONE);
        x = Desk.grown("trait a 3;trait b 3;trait c 2;tree t;clause p on t says 9 set if 1;clause q on t says 8 set over p if a=2 and b=2 and c=1;"
            + "clause r on t says 7 set over p if a=1 and b=1 and c=0;clause s on t says 8 set over p if a=0 and b=2 and c=1;");
        due("of two with two traits the one that pays least", x.evade(0, 0), 8);
        due("one trait rather than two, though it pays more", x.evade(0, 4), 5);
        due("one trait", x.evade(0, 3), 5);
        due("the first of like ones", x.evade(0, 11), 5);
        x = Desk.grown("trait a 4;tree t;clause p on t says 9 set if a<2;clause q on t says 9 set if a=3;");
        due("to none", x.evade(0, 0), 2);
        x = Desk.grown("trait a 4;tree t;clause p on t says 9 set if 1;clause q on t says 3 set over p if a=1;clause r on t says 3 set over p if a=3;clause s on t says 4 set over p if a=0;");
        due("pays least, the first", x.evade(0, 2), 1);
        due("from 4 to 3", x.evade(0, 0), 1);
        due("as much is not less", x.evade(0, 3), NONE);
    }

    /** Promise 30: NONE if there is none, or one can't be. */
    private static void evadeCantBe() {
        GraftedLaws x = Desk.grown("trait a 3;tree t;clause p on t says 9 set if a<2;");
        due("from the first", x.evade(0, 0), 2);
        due("from the last", x.evade(0, 2), NONE);
        due("no case", x.evade(0, 3), NONE);
        due("no tree", x.evade(1, 0), NONE);
        for (int far : FAR) {
            due("no case", x.evade(0, far), NONE);
            due("no tree", x.evade(far, 0), NONE);
        }
        x = Desk.grown("tree t;clause p on t says 9 set if 1;");
        due("one case alone", x.evade(0, 0), NONE);
        x = Desk.grown("trait a 2;trait b 2;trait c 2;trait d 2;tree t;clause p on t says 1 set if a+b+c+d<4;");
        due("all four traits changed", x.evade(0, 0), 15);
        due("three of them", x.evade(0, 4), 15);
    }

    /** Promise 31: for how many CASES something else FOLLOWS; NONE if one can't be (behind NONE: nothing). */
    private static void unlikeTrees() {
        GraftedLaws x = Desk.grown("trait a 4;tree t;tree u;tree v;clause p on t says 0 set if a=0;clause q on u says 5 set if a=1;"
            + "clause r on u says 6 set if a=1;clause s on v says 5 set if a=2;clause o on u says 5 set if a=2;");
        due("0 is not none, split is not none", x.unlike(0, 1), 3);
        DESK.lie("unlike(0, 1)", x, 0, 1, 2);
        due("the same verdict by other clauses", x.unlike(1, 2), 1);
        DESK.lie("unlike(1, 2)", x, 1);
        due("with itself", x.unlike(1, 1), 0);
        DESK.lie("unlike(1, 1)", x);
        for (int far : new int[] {3, -1, Integer.MIN_VALUE, Integer.MAX_VALUE, 12, 256}) {
            due("two trees", x.unlike(0, 2), 2);
            due("no tree", x.unlike(far, 0), NONE);
            DESK.lie("nothing", x);
            due("two trees", x.unlike(2, 0), 2);
            due("no tree", x.unlike(0, far), NONE);
            DESK.lie("nothing", x);
            due("neither", x.unlike(far, far), NONE);
        }
    }

    /** Promise 31: the first 40 lie there then. */
    private static void fortyUnlikeCases() {
        for (int many = 38; many <= 43; many++) {
            GraftedLaws x = Desk.grown(cases(many));
            x.graft(0);
            due("unlike", x.unlike(0, 1), many);
            due("how many lie there", x.about(14), Math.min(many, 40));
            for (int i = 0; i < 45; i++) {
                due("lies(" + i + ") of " + many, x.lies(i), i < many && i < 40 ? 64 - many + i : NONE);
            }
        }
    }

    /** Behind which just these of it are IN. */
    private static void reachOfWhatIsSo() {
        GraftedLaws x = Desk.grown("tree t;tree u;clause p on t says 1 set if 1;clause q on t says 1 if 1;clause o on u says 1 set if 1;");
        due("it is so", x.reach(0, 0b001), 0);
        DESK.lie("it is so", x);
        due("none", x.reach(0, 0), 1);
        DESK.lie("none", x, 0);
        due("both", x.reach(0, 0b011), 1);
        DESK.lie("both", x, 1);
        due("the other one", x.reach(0, 0b010), 2);
        DESK.lie("the other one", x, 0, 1);
        due("another tree", x.reach(1, 0b100), 0);
        due("a bare set of another tree", x.reach(1, 0), 1);
        DESK.lie("another tree", x, 2);
        x.graft(1);
        due("what is in, though it does not bear", x.reach(0, 0b011), 0);
        due("nothing is done", x.about(7), 1);
    }

    /** As they can be in earnest (what is GRAFTED needs no YEAR, nothing suckers, all of other TREES stay as they are). */
    private static void reachAsInEarnest() {
        GraftedLaws x = Desk.grown("tree t;tree u;clause o on u says 1 if 1;clause p on t says 1 if 1;clause q on t says 1 needs p if 1;"
            + "clause r on t says 1 forbids needs q if 1;clause s on t says 1 bars p if 1;clause v on t says 1 needs o if 1;bears 9;suckers 1;");
        due("first what it needs", x.reach(0, 0b000110), 2);
        DESK.lie("needs", x, 1, 2);
        due("without it", x.reach(0, 0b000100), 3);
        DESK.lie("and out again", x, 1, 2, 1);
        due("what forbids comes last", x.reach(0, 0b011110), 4);
        DESK.lie("forbids", x, 1, 2, 4, 3);
        due("what bars comes behind", x.reach(0, 0b010100), 4);
        DESK.lie("bars", x, 1, 2, 1, 4);
        due("what is of another tree stays", x.reach(0, 0b100000), NONE);
        DESK.lie("it can't be", x);
        due("on that tree", x.reach(1, 1), 1);
        x.graft(0);
        due("now it is in", x.reach(0, 0b100000), 1);
        DESK.lie("one", x, 5);
        x.graft(1);
        x.graft(2);
        x.graft(4);
        x.graft(3);
        due("nothing can be grafted, what bars goes first", x.reach(0, 0b001100), 2);
        DESK.lie("two prunings", x, 4, 1);
        due("what forbids goes out and comes in", x.reach(0, 0b111110), 3);
        DESK.lie("three", x, 3, 5, 3);
    }

    /** Of like ones the first (CLAUSE by CLAUSE). */
    private static void reachClauseByClause() {
        GraftedLaws x = Desk.grown("tree t;clause a on t says 1 if 1;clause b on t says 1 set if 1;clause c on t says 1 if 1;clause d on t says 1 set if 1;clause e on t says 1 if 1;");
        due("all turned over", x.reach(0, 0b10101), 5);
        DESK.lie("in order", x, 0, 1, 2, 3, 4);
        due("those at the ends", x.reach(0, 0b11011), 2);
        DESK.lie("in order", x, 0, 4);
        x = Desk.grown("tree t;clause a on t says 1 set if 1;clause b on t says 1 set bars a if 1;clause c on t says 1 needs b if 1;clause d on t says 1 if 1;");
        due("as early as it can be", x.reach(0, 0b1100), 4);
        DESK.lie("the first of like ones", x, 2, 1, 0, 3);
    }

    /** Promise 32: NONE if it can't be; -2 if one can't be (a CLAUSE of another TREE, too); behind these nothing lies there. */
    private static void reachCantBe() {
        GraftedLaws x = Desk.grown("tree t;tree u;clause a on t says 1 if 1;clause b on t says 1 needs a if 1;clause o on u says 1 set bars a if 1;");
        for (int odd : new int[] {0b100, 0b101, 0b1000, 1 << 11, 1 << 12, 1 << 13, 1 << 30, -1, -2, Integer.MIN_VALUE, Integer.MAX_VALUE}) {
            due("a way", x.reach(0, 0b011), 2);
            due("reach(0, " + odd + ")", x.reach(0, odd), -2);
            DESK.lie("nothing", x);
        }
        for (int far : new int[] {2, 3, -1, Integer.MIN_VALUE, Integer.MAX_VALUE, 256}) {
            due("a way", x.reach(0, 0b011), 2);
            due("no tree", x.reach(far, 0), -2);
            DESK.lie("nothing", x);
        }
        due("a way", x.reach(0, 0b011), 2);
        due("it can't be: what bars is of another tree", x.reach(0, 0b010), NONE);
        DESK.lie("nothing", x);
        due("its own", x.reach(1, 0b100), 0);
        due("one of the other tree", x.reach(1, 0b101), -2);
    }

    /** Their CLAUSES lie there then: all of them, not forty alone. */
    private static void reachIsLong() {
        GraftedLaws x = Desk.grown("tree t;clause ca on t says 2 set forbids if 1;clause cb on t says 1 set bars ca if 1;"
            + "clause cc on t says 1 set bars cb if 1;clause cd on t says 1 set bars cc if 1;clause ce on t says 1 set bars cb bars cc bars cd if 1;"
            + "clause cf on t says 1 set needs ce bars ce if 1;clause cg on t says 1 set needs ce needs cf bars cb bars ce if 1;"
            + "clause ch on t says 1 set needs cb needs cg bars cd bars cf if 1;clause ci on t says 1 set needs cc needs ch bars cd if 1;"
            + "clause cj on t says 1 set needs cd needs cg needs ci bars cc if 1;clause ck on t says 1 set needs cc needs cg needs cj bars cb if 1;"
            + "clause cl on t says 1 set needs cb needs ck bars ca if 1;");
        due("a long way", x.reach(0, 3665), 86);
        due("all lie there", x.about(14), 86);
        due("the first of them", x.lies(0) >= 0, true);
        due("the 41st", x.lies(40) >= 0, true);
        due("the last", x.lies(85) >= 0, true);
        due("no other", x.lies(86), NONE);
        due("a short one behind it", x.reach(0, 4095), 0);
        due("nothing lies there", x.lies(0), NONE);
        x.reach(0, 3665);
        Desk.feed(x, cases(41));
        x.orchard();
        due("nothing lies there behind another orchard", x.lies(0), NONE);
        due("41 cases behind a long way", x.fruit(0), 41);
        due("forty of them", x.about(14), 40);
        due("the last", x.lies(39), 62);
        due("no other", x.lies(40), NONE);
    }

    /** 0 and 1 by turns let one more CLAUSE BEAR, or none, n times (1 .. 3) in all, 0 first: 0 wants most, 1 least. */
    private static void partiesByTurns() {
        GraftedLaws x = Desk.grown("tree t later;clause p on t says 5 set if 1;clause q on t says 8 if 1;clause r on t says 2 if 1;clause s on t says 3 if 1;");
        due("0 takes it up to 8", x.parties(0, 1, 0), 8);
        due("by q", x.parties(0, 1, 1), 1);
        due("1 takes it down to 2", x.parties(0, 2, 0), 3);
        due("unless 0 let s bear first", x.parties(0, 2, 1), 3);
        due("at the last 0 lets s bear", x.parties(0, 3, 0), 3);
        x = Desk.grown("trait a 2;tree t;clause p on t says 1 set if 1;clause q on t says 9 over p if 1;clause r on t says 4 over q if a;clause s on t says 4 over q if a=0;");
        due("one turn", x.parties(0, 1, 0), 18);
        due("two turns", x.parties(0, 2, 0), 13);
        due("three turns", x.parties(0, 3, 0), 13);
    }

    /** The first choice (of like ones the first CLAUSE; none comes last). */
    private static void likeOnesAndNone() {
        GraftedLaws x = Desk.grown("tree t;tree u;clause p on t says 5 set if 1;clause q on t says 4 if 1;clause o on u says 5 if 1;clause r on t says 5 if 1;clause s on t says 5 if 1;");
        due("a clause that changes nothing rather than none", x.parties(0, 1, 1), 3);
        due("what all pay", x.parties(0, 1, 0), 5);
        due("another tree", x.parties(1, 1, 1), 2);
        x = Desk.grown("tree t;clause p on t says 5 set if 1;clause q on t says 4 if 1;clause r on t says 6 if 1;");
        due("none is better", x.parties(0, 1, 1), NONE);
        due("what all pay", x.parties(0, 1, 0), 5);
        due("1 splits it, whatever 0 does: the first", x.parties(0, 2, 1), 1);
        due("what all pay", x.parties(0, 2, 0), 0);
        x = Desk.grown("tree t;clause p on t says 5 set if 1;");
        due("no clause is left", x.parties(0, 3, 1), NONE);
        due("what all pay", x.parties(0, 3, 0), 5);
        x = Desk.grown("tree t;clause p on t says 5 if 1;bears 3;");
        x.graft(0);
        due("in, but it does not bear: it is one more", x.parties(0, 1, 1), 0);
        due("what all pay", x.parties(0, 1, 0), 5);
        due("nothing is done", x.about(7), 1);
    }

    /** Promise 33: NONE if one can't be. */
    private static void partiesCantBe() {
        GraftedLaws x = Desk.grown("tree t;clause p on t says 5 if 1;");
        for (int n = 1; n <= 3; n++) {
            due("n " + n, x.parties(0, n, 0), 5);
            due("n " + n, x.parties(0, n, 1), 0);
            due("what 2", x.parties(0, n, 2), NONE);
            due("no tree", x.parties(1, n, 0), NONE);
            for (int far : FAR) {
                due("no what", x.parties(0, n, far), NONE);
                due("no tree", x.parties(far, n, 0), NONE);
            }
        }
        due("n 0", x.parties(0, 0, 0), NONE);
        due("n 4", x.parties(0, 4, 0), NONE);
        for (int far : FAR) {
            due("n", x.parties(0, far, 0), NONE);
        }
    }

    /** Promise 34: NONE if there is none such. */
    private static void lies() {
        GraftedLaws x = Desk.grown("trait a 4;tree t;clause p on t says 5 if a>1;bears 0;");
        due("nothing at first", x.lies(0), NONE);
        x.fruit(0);
        due("the first", x.lies(0), 2);
        due("the last", x.lies(1), 3);
        due("none such", x.lies(2), NONE);
        for (int far : FAR) {
            due("none such", x.lies(far), NONE);
        }
        x.graft(0);
        x.year();
        x.undo();
        x.wish(0, 1);
        x.parties(0, 1, 0);
        due("it stays till something else lies there", x.lies(1), 3);
        x.reach(0, 0);
        DESK.lie("a way", x, 0);
    }
}
