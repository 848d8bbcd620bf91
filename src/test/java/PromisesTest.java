/** For each promise of the document, by its number: ordinary calls, the edges that are named, wrong arguments. */
public final class PromisesTest {
    private static final int NONE = GraftedLaws.NONE;
    private static final int SPLIT = GraftedLaws.SPLIT;
    private static final int[] ODD = {-1, Integer.MIN_VALUE, Integer.MAX_VALUE, 256, 1000};
    private static final Desk DESK = new Desk("PromisesTest");

    /** Sixteen cases: two traits of four. */
    private static final String FOUR_BY_FOUR = "trait a 4;trait b 4;";

    public static void main(String[] args) {
        p01NewObject();
        p02Feed();
        p03End();
        p04Orchard();
        p05Fault();
        p06Trait();
        p07Clause();
        p08Applies();
        p09Over();
        p10Wide();
        p11Follows();
        p12Many();
        p13First();
        p14May();
        p15Graft();
        p16Prune();
        p17Year();
        p18Storm();
        p19Undo();
        p20Redo();
        p21Fruit();
        p22Wish();
        p23Hush();
        p24Least();
        p25Pith();
        p26Aim();
        p27Holes();
        p28Gains();
        p29Mend();
        p30Evade();
        p31Unlike();
        p32Reach();
        p33Parties();
        p34Lies();
        p35Judge();
        p36Untell();
        p37Later();
        p38Can();
        p39Ask();
        p40Image();
        p41Back();
        p42About();
        DESK.close();
    }

    private static void due(String call, long got, long want) {
        DESK.due(call, got, want);
    }

    private static void due(String call, boolean got, boolean want) {
        DESK.due(call, got, want);
    }

    private static void lie(String call, GraftedLaws x, int... wants) {
        DESK.lie(call, x, wants);
    }

    private static void p01NewObject() {
        GraftedLaws x = new GraftedLaws();
        for (int what = 0; what <= 15; what++) {
            due("1 about(" + what + ")", x.about(what), what == 1 ? 1 : 0);
        }
        due("1 follows", x.follows(0, 0), -3);
        due("1 trait", x.trait(0, 0), NONE);
        due("1 clause", x.clause(0, 0), -2);
        due("1 aim", x.aim(0), 0);
        due("1 undo", x.undo(), false);
        due("1 redo", x.redo(), false);
        due("1 back", x.back(0), NONE);
        due("1 lies", x.lies(0), NONE);
        due("1 storm", x.storm(), NONE);
        due("1 seed behind a storm", x.about(5), 71);
        due("1 year", x.year(), 1);
        due("1 constants", GraftedLaws.NONE * 10 + GraftedLaws.SPLIT, -12);
    }

    private static void p02Feed() {
        GraftedLaws x = new GraftedLaws();
        due("2 feed", x.feed(0x74726565, 0x20743b20, 0x20202020, 0x20202020, 0x2020200a), 20);
        due("2 the highest byte first", x.orchard(), 1);
        due("2 a tree", x.about(2), 1);
        for (int n = 1; n <= 80; n++) {
            due("2 feed " + n, x.feed(n, 2, 3, 4, 5), 20 * n);
        }
        due("2 feed too much", x.feed(1, 2, 3, 4, 5), NONE);
        due("2 nothing came", x.about(12), 1600);
        due("2 end", x.end(1581), 1581);
        due("2 feed 1601", x.feed(1, 2, 3, 4, 5), NONE);
        due("2 end", x.end(1580), 1580);
        due("2 feed 1600", x.feed(1, 2, 3, 4, 5), 1600);
        x = new GraftedLaws();
        x.feed(0x74726565, 0x20743b20, 0x202020ff, 0x20202020, 0x20202020);
        due("2 a byte above 127", x.orchard(), NONE);
        due("2 its place", x.fault(1), 11);
    }

    private static void p03End() {
        GraftedLaws x = new GraftedLaws();
        due("3 end(0)", x.end(0), 0);
        due("3 end(1)", x.end(1), NONE);
        due("3 end(-1)", x.end(-1), NONE);
        x.feed(0x74726565, 0x20743b3f, 0, 0, 0);
        due("3 end(21)", x.end(21), NONE);
        due("3 end(min)", x.end(Integer.MIN_VALUE), NONE);
        due("3 nothing done", x.about(12), 20);
        due("3 end(20)", x.end(20), 20);
        due("3 end(7)", x.end(7), 7);
        due("3 end(8)", x.end(8), NONE);
        due("3 bytes", x.about(12), 7);
        due("3 the first bytes stay", x.orchard(), 1);
        x.feed(0x74726565, 0x20743b3f, 0, 0, 0);
        x.end(7);
        due("3 more behind", x.feed(0x74726565, 0x20753b20, 0x20202020, 0x20202020, 0x20202020), 27);
        due("3 both", x.orchard(), 1);
        due("3 both trees", x.about(2), 2);
    }

    private static void p04Orchard() {
        GraftedLaws x = Desk.grown("tree t;clause a on t says 1 set if 1;clause b on t says 2 if 1;seed 5;");
        due("4 an empty tape behind it", x.about(12), 0);
        x.storm();
        x.graft(1);
        x.undo();
        x.wish(0, 1);
        x.judge(0, 0, 1);
        x.fruit(0);
        x.later(7);
        x.image(1);
        Desk.feed(x, "tree t;oh");
        due("4 a fault", x.orchard(), NONE);
        int[] stay = {0, 1, 1, 2, 0, 756, 0, 1, 1, 1, 1, 7, 0, 2, 1, 0};
        for (int what = 0; what < stay.length; what++) {
            due("4 all else stays, about(" + what + ")", x.about(what), stay[what]);
        }
        due("4 the box stays", x.back(1), 0);
        x.graft(1);
        x.undo();
        x.fruit(0);
        x.image(1);
        Desk.feed(x, "trait a 4;trait b 4;trait c 4;trait d 4;");
        due("4 cases", x.orchard(), 256);
        int[] anew = {4, 256, 0, 0, 0, 0, 0, 0, 0, 0, 0, 7, 0, 0, 0, 0};
        for (int what = 0; what < anew.length; what++) {
            due("4 anew, about(" + what + ")", x.about(what), anew[what]);
        }
        due("4 no box", x.back(1), NONE);
        due("4 nothing lies there", x.lies(0), NONE);
        due("4 an empty text", x.orchard(), 1);
        due("4 without traits", x.about(0), 0);
        nothingStaysOfEarlierOnes();
    }

    private static void nothingStaysOfEarlierOnes() {
        GraftedLaws again = new GraftedLaws();
        for (int n = 0; n < 60; n++) {
            Desk.feed(again, "aim 1+1+1+1+1+1+1+1+1+1+1+1+1+1+1+1+1+1+1+1+1+1+1+1+1+1+1+1+1+" + n + ";");
            due("4 orchard " + n, again.orchard(), 1);
            due("4 its aim", again.aim(0), 29 + n);
        }
        String full = "trait a 3;tree t later;tree u narrow;clause p on t says 8 set forbids if a;clause q on t says 9 set over p needs p bars p if a>1;"
            + "clause r on u says 7 set if 1;aim 5+a;bears 7;suckers 6;seed 5;";
        String plain = "tree t;clause p on t says 1 set if 1;clause q on t says 2 set if 1;clause r on t says 3 if 1;";
        String[][] orders = {{full, plain}, {full, "", plain}, {full, full, plain}, {full, "oh", plain}, {full, plain, "", plain}};
        for (String[] order : orders) {
            GraftedLaws x = new GraftedLaws();
            for (String text : order) {
                Desk.feed(x, text);
                x.orchard();
            }
            int[] wants = {0, 1, 1, 3, 0, 0, 2, 0, 0, 0, 0, 0, 0, 3, 0, 0};
            for (int what = 0; what < wants.length; what++) {
                due("4 behind others about(" + what + ")", x.about(what), wants[what]);
            }
            due("4 behind others aim", x.aim(0), 0);
            due("4 behind others over", x.over(1, 0), 0);
            due("4 behind others follows", x.follows(0, 0), SPLIT);
            due("4 behind others no tree", x.follows(1, 0), -3);
            due("4 behind others graft", x.graft(2), 1);
            due("4 behind others prune", x.prune(0), true);
            due("4 behind others suckers", x.clause(0, 5), NONE);
            due("4 behind others can", x.can(0, 0, 0), 8);
            due("4 behind others wide", x.wide(0), 1);
        }
    }

    private static void p05Fault() {
        GraftedLaws x = new GraftedLaws();
        due("5 ahead of any", x.fault(0), 0);
        due("5 ahead of any", x.fault(1), NONE);
        Desk.feed(x, "tree t;clause a on v says 1 if 1;");
        x.orchard();
        due("5 what", x.fault(0), 5);
        due("5 where", x.fault(1), 19);
        for (int what : ODD) {
            due("5 fault(" + what + ")", x.fault(what), NONE);
        }
        due("5 fault(2)", x.fault(2), NONE);
        x.orchard();
        due("5 without", x.fault(0), 0);
        due("5 without", x.fault(1), NONE);
    }

    private static void p06Trait() {
        GraftedLaws x = Desk.grown("trait p 2;trait q 3;tree t;trait r 4;trait s 2;");
        due("6 cases", x.about(1), 48);
        int kase = 0;
        for (int p = 0; p < 2; p++) {
            for (int q = 0; q < 3; q++) {
                for (int r = 0; r < 4; r++) {
                    for (int s = 0; s < 2; s++) {
                        due("6 trait(" + kase + ", 0)", x.trait(kase, 0), p);
                        due("6 trait(" + kase + ", 1)", x.trait(kase, 1), q);
                        due("6 trait(" + kase + ", 2)", x.trait(kase, 2), r);
                        due("6 trait(" + kase + ", 3)", x.trait(kase, 3), s);
                        kase++;
                    }
                }
            }
        }
        due("6 no case", x.trait(48, 0), NONE);
        due("6 no trait", x.trait(0, 4), NONE);
        for (int odd : ODD) {
            due("6 no case", x.trait(odd, 0), NONE);
            due("6 no trait", x.trait(0, odd), NONE);
        }
    }

    private static void p07Clause() {
        GraftedLaws x = Desk.grown("tree t;tree u;clause a on u says 99 set if 1;clause b on t says 0 if 1;bears 3;suckers 2;");
        int[][] wants = {{1, 99, 1, 1, 0, NONE}, {0, 0, 0, 0, NONE, NONE}};
        for (int clause = 0; clause < 2; clause++) {
            for (int what = 0; what < 6; what++) {
                due("7 clause(" + clause + ", " + what + ")", x.clause(clause, what), wants[clause][what]);
            }
        }
        x.year();
        x.graft(1);
        x.prune(0);
        int[][] then = {{1, 99, 0, 0, NONE, 3}, {0, 0, 1, 0, 4, NONE}};
        for (int clause = 0; clause < 2; clause++) {
            for (int what = 0; what < 6; what++) {
                due("7 then clause(" + clause + ", " + what + ")", x.clause(clause, what), then[clause][what]);
            }
        }
        x.year();
        due("7 not yet", x.clause(1, 3), 0);
        x.year();
        due("7 suckered, bears at once", x.clause(0, 3), 1);
        due("7 from then on", x.clause(0, 4), 3);
        x.year();
        due("7 bears in that year", x.clause(1, 3), 1);
        due("7 none such", x.clause(2, 0), -2);
        due("7 another what", x.clause(0, 6), -2);
        for (int odd : ODD) {
            due("7 none such", x.clause(odd, 0), -2);
            due("7 another what", x.clause(0, odd), -2);
        }
    }

    private static void p08Applies() {
        GraftedLaws x = Desk.grown("trait a 3;tree t;clause p on t says 1 if a-1;clause q on t says 1 if not a;"
            + "clause r on t says 1 if a=0 or a=2 and 0;clause s on t says 1 if not a=1;clause u on t says 1 if a/0+a%0;"
            + "trait b 2;clause v on t says 1 if b;");
        int[] wants = {0b110011, 0b000011, 0b000011, 0b110011, 0, 0b101010};
        for (int clause = 0; clause < wants.length; clause++) {
            for (int kase = 0; kase < 6; kase++) {
                due("8 applies(" + clause + ", " + kase + ")", x.applies(clause, kase), wants[clause] >> kase & 1);
            }
        }
        due("8 no clause", x.applies(6, 0), NONE);
        due("8 no case", x.applies(0, 6), NONE);
        for (int odd : ODD) {
            due("8 no clause", x.applies(odd, 0), NONE);
            due("8 no case", x.applies(0, odd), NONE);
        }
    }

    private static void p09Over() {
        String clauses = "clause p on t says 1 if 1;clause q on t says 1 if a<2;clause r on t says 1 over p over q if a<2;"
            + "clause s on t says 1 if 0;clause u on t says 1 if a>0;clause v on o says 1 if a=0;";
        int[] told = {0, 0, 0b000011, 0, 0, 0};
        int[] later = {0, 0b00001, 0b00011, 0b00111, 0b01111, 0};
        int[] narrow = {0, 0b00001, 0b00011, 0, 0b00001, 0};
        int[][] wants = {told, later, narrow};
        String[] manners = {"", "later", "narrow"};
        for (int m = 0; m < 3; m++) {
            GraftedLaws x = Desk.grown("trait a 3;tree t " + manners[m] + ";tree o later;" + clauses);
            for (int c = 0; c < 6; c++) {
                for (int d = 0; d < 6; d++) {
                    due("9 " + manners[m] + " over(" + c + ", " + d + ")", x.over(c, d), wants[m][c] >> d & 1);
                }
            }
            due("9 none such", x.over(6, 0), NONE);
            due("9 none such", x.over(0, 6), NONE);
            for (int odd : ODD) {
                due("9 none such", x.over(odd, 0), NONE);
                due("9 none such", x.over(0, odd), NONE);
            }
        }
    }

    private static void p10Wide() {
        GraftedLaws x = Desk.grown(FOUR_BY_FOUR + "tree t;clause p on t says 1 if a<b;clause q on t says 1 set if 1;clause r on t says 1 if 0;");
        due("10 wide(0)", x.wide(0), 6);
        due("10 wide(1)", x.wide(1), 16);
        due("10 wide(2)", x.wide(2), 0);
        due("10 wide(3)", x.wide(3), NONE);
        for (int odd : ODD) {
            due("10 wide(" + odd + ")", x.wide(odd), NONE);
        }
    }

    private static void p11Follows() {
        GraftedLaws x = Desk.grown("trait a 4;tree t;clause p on t says 3 set if a<3;clause q on t says 3 set if a=1;"
            + "clause r on t says 4 set if a=2;clause s on t says 7 over p over q if a<2;");
        due("11 one says", x.follows(0, 0), 3);
        due("11 two say the same", x.follows(0, 1), 3);
        due("11 they split", x.follows(0, 2), SPLIT);
        due("11 none applies", x.follows(0, 3), NONE);
        x.graft(3);
        due("11 it does not bear yet", x.follows(0, 0), 3);
        x.year();
        due("11 it bears", x.follows(0, 0), 7);
        due("11 it bears", x.follows(0, 1), 7);
        due("11 it does not apply", x.follows(0, 2), SPLIT);
        x = Desk.grown("tree t;clause p on t says 1 set if 1;clause q on t says 2 set over p if 1;clause r on t says 3 set over q if 1;");
        due("11 one that is under another is over a third", x.follows(0, 0), 3);
        x = Desk.grown("trait a 2;tree t narrow;clause p on t says 1 set if a;clause q on t says 2 set over p if 1;");
        due("11 over one another", x.follows(0, 1), NONE);
        due("11 one alone", x.follows(0, 0), 2);
        x = Desk.grown("tree t;tree u;clause p on t says 0 set if 1;");
        due("11 a verdict 0", x.follows(0, 0), 0);
        due("11 another tree", x.follows(1, 0), NONE);
        due("11 no tree", x.follows(2, 0), -3);
        due("11 no case", x.follows(0, 1), -3);
        for (int odd : ODD) {
            due("11 no tree", x.follows(odd, 0), -3);
            due("11 no case", x.follows(0, odd), -3);
        }
    }

    private static final String SORTS = "trait a 4;trait b 2;tree t;tree u;clause p on t says 0 set if a=1 or a=3;clause q on t says 6 set if a*2+b>5;";

    private static void p12Many() {
        GraftedLaws x = Desk.grown(SORTS);
        due("12 verdicts", x.many(0, 0), 2);
        due("12 none", x.many(0, 1), 4);
        due("12 split", x.many(0, 2), 2);
        due("12 on another tree", x.many(1, 1), 8);
        due("12 another what", x.many(0, 3), NONE);
        due("12 no tree", x.many(2, 0), NONE);
        for (int odd : ODD) {
            due("12 another what", x.many(0, odd), NONE);
            due("12 no tree", x.many(odd, 0), NONE);
        }
    }

    private static void p13First() {
        GraftedLaws x = Desk.grown(SORTS);
        due("13 verdict", x.first(0, 0), 2);
        due("13 none", x.first(0, 1), 0);
        due("13 split", x.first(0, 2), 6);
        due("13 there is none", x.first(1, 0), NONE);
        due("13 another what", x.first(0, 3), NONE);
        due("13 no tree", x.first(2, 1), NONE);
        for (int odd : ODD) {
            due("13 another what", x.first(0, odd), NONE);
            due("13 no tree", x.first(odd, 1), NONE);
        }
    }

    private static final String NEEDY = "tree t;tree u;clause p on t says 1 if 1;clause q on u says 1 needs p if 1;"
        + "clause r on t says 1 set forbids if 1;clause s on u says 1 set bars r if 1;clause o on t says 1 forbids if 1;suckers 2;bears 3;";

    private static void p14May() {
        GraftedLaws x = Desk.grown(NEEDY);
        int[] grafts = {0, 0, 0, 0, 0};
        int[] prunes = {0, 0, 0, 1, 0};
        for (int clause = 0; clause < 5; clause++) {
            due("14 may(" + clause + ", 0)", x.may(clause, 0), grafts[clause]);
            due("14 may(" + clause + ", 1)", x.may(clause, 1), prunes[clause]);
        }
        x.prune(3);
        due("14 nothing bars it", x.may(2, 1), 1);
        x.prune(2);
        due("14 nothing forbids", x.may(0, 0), 1);
        due("14 what forbids is out itself", x.may(4, 0), 1);
        due("14 it needs another", x.may(1, 0), 0);
        x.graft(0);
        due("14 that is in, if it does not bear yet", x.may(1, 0), 1);
        due("14 no clause", x.may(5, 0), NONE);
        due("14 another what", x.may(0, 2), NONE);
        for (int odd : ODD) {
            due("14 no clause", x.may(odd, 0), NONE);
            due("14 another what", x.may(0, odd), NONE);
        }
    }

    private static void p15Graft() {
        GraftedLaws x = Desk.grown(NEEDY);
        due("15 forbidden", x.graft(0), NONE);
        due("15 needs another", x.graft(1), NONE);
        due("15 is in", x.graft(3), NONE);
        due("15 no clause", x.graft(5), NONE);
        due("15 no act", x.about(7), 0);
        x.prune(3);
        x.prune(2);
        x.year();
        due("15 three years behind", x.graft(0), 4);
        due("15 is in by then", x.graft(0), NONE);
        due("15 an act", x.about(7), 4);
        due("15 needs what is in", x.graft(1), 4);
        due("15 one that forbids", x.graft(4), 4);
        due("15 forbidden by it, on its tree", x.graft(2), NONE);
        due("15 on another tree not", x.graft(3), 4);
        for (int odd : ODD) {
            due("15 no clause", x.graft(odd), NONE);
        }
        x = Desk.grown("tree t;clause a on t says 1 if 1;");
        due("15 a year behind without bears", x.graft(0), 1);
        x = Desk.grown("tree t;clause a on t says 1 if 1;bears 0;");
        due("15 at once", x.graft(0), 0);
        due("15 bears at once", x.follows(0, 0), 1);
    }

    private static void p16Prune() {
        GraftedLaws x = Desk.grown(NEEDY);
        due("16 barred, from another tree", x.prune(2), false);
        due("16 is out", x.prune(0), false);
        due("16 no clause", x.prune(5), false);
        due("16 no act", x.about(7), 0);
        due("16 pruned", x.prune(3), true);
        due("16 out by then", x.prune(3), false);
        due("16 suckers", x.clause(3, 5), 2);
        due("16 not barred any more", x.prune(2), true);
        due("16 nothing is in", x.about(6), 0);
        due("16 acts", x.about(7), 2);
        for (int odd : ODD) {
            due("16 no clause", x.prune(odd), false);
        }
        x = Desk.grown("tree t;clause a on t says 1 set if 1;clause b on t says 1 set needs a if 1;");
        due("16 what another needs", x.prune(0), true);
        due("16 it suckers never", x.clause(0, 5), NONE);
        for (int n = 0; n < 20; n++) {
            x.year();
        }
        due("16 out for good", x.clause(0, 2), 0);
    }

    private static void p17Year() {
        GraftedLaws x = Desk.grown(NEEDY);
        x.prune(3);
        x.prune(2);
        due("17 year", x.year(), 1);
        due("17 not in yet", x.about(6), 0);
        x.graft(0);
        due("17 year", x.year(), 2);
        due("17 both are in again, forbidden or not", x.about(6), 3);
        due("17 it bears at once", x.clause(2, 4), 2);
        due("17 it is due no more", x.clause(2, 5), NONE);
        due("17 acts", x.about(7), 5);
        x = Desk.grown("tree t;clause a on t says 1 set if 1;suckers 2;bears 5;");
        x.prune(0);
        x.graft(0);
        due("17 still due", x.clause(0, 5), 2);
        x.year();
        x.year();
        due("17 is in by then, bears as grafted", x.clause(0, 4), 5);
        due("17 is due no more", x.clause(0, 5), NONE);
        due("17 does not bear", x.clause(0, 3), 0);
        x.prune(0);
        due("17 due anew", x.clause(0, 5), 4);
        x = Desk.grown("");
        for (int year = 1; year <= 500; year++) {
            due("17 year " + year, x.year(), year);
        }
    }

    private static void p18Storm() {
        GraftedLaws x = Desk.grown("tree t;tree u;clause a on t says 1 set if 1;clause b on u says 1 set if 1;"
            + "clause c on t says 1 if 1;clause d on t says 1 set if 1;clause e on u says 1 set bars d if 1;seed 999;suckers 1;");
        due("18 of four, place 2", x.storm(), 3);
        due("18 the seed", x.about(5), 934);
        due("18 it does not sucker", x.clause(3, 5), NONE);
        due("18 of three, place 2", x.storm(), 4);
        due("18 the seed", x.about(5), 29);
        due("18 of two, place 0", x.storm(), 0);
        due("18 the seed", x.about(5), 44);
        due("18 of one", x.storm(), 1);
        due("18 the seed", x.about(5), 99);
        due("18 of none", x.storm(), NONE);
        due("18 the seed goes on", x.about(5), 634);
        due("18 acts", x.about(7), 5);
        x.year();
        due("18 nothing suckers", x.about(6), 0);
        due("18 undone", x.undo() && x.undo(), true);
        due("18 the seed as it was", x.about(5), 99);
    }

    private static void p19Undo() {
        GraftedLaws x = Desk.grown("tree t;clause a on t says 1 set if 1;clause b on t says 2 if 1;suckers 1;");
        due("19 none", x.undo(), false);
        x.prune(0);
        x.graft(1);
        x.graft(1);
        x.year();
        due("19 a year", x.undo(), true);
        due("19 the year", x.about(4), 0);
        due("19 not suckered", x.clause(0, 5), 1);
        due("19 a graft", x.undo(), true);
        due("19 out", x.clause(1, 4), NONE);
        due("19 a pruning", x.undo(), true);
        due("19 in", x.clause(0, 4), 0);
        due("19 not due", x.clause(0, 5), NONE);
        due("19 none", x.undo(), false);
        due("19 all can be redone", x.about(8), 3);
        for (int n = 0; n < 45; n++) {
            x.year();
        }
        due("19 forty are kept", x.about(7), 40);
        for (int n = 0; n < 40; n++) {
            due("19 undo " + n, x.undo(), true);
        }
        due("19 the oldest are gone", x.undo(), false);
        due("19 the year", x.about(4), 5);
    }

    private static void p20Redo() {
        GraftedLaws x = Desk.grown("tree t;clause a on t says 1 set if 1;clause b on t says 2 if 1;seed 3;");
        due("20 none", x.redo(), false);
        x.storm();
        x.graft(1);
        x.year();
        due("20 none", x.redo(), false);
        x.undo();
        x.undo();
        x.undo();
        due("20 a storm", x.redo(), true);
        due("20 the seed", x.about(5), 482);
        due("20 out", x.clause(0, 2), 0);
        due("20 a graft", x.redo(), true);
        due("20 from", x.clause(1, 4), 1);
        due("20 undoable", x.about(7), 2);
        due("20 redoable", x.about(8), 1);
        due("20 what can't be is no act", x.graft(1), NONE);
        due("20 a year", x.redo(), true);
        due("20 bears", x.follows(0, 0), 2);
        due("20 none", x.redo(), false);
        x.undo();
        x.undo();
        x.year();
        due("20 another act", x.redo(), false);
        due("20 none left", x.about(8), 0);
        for (int n = 0; n < 60; n++) {
            x.year();
        }
        for (int n = 0; n < 40; n++) {
            x.undo();
        }
        for (int n = 0; n < 40; n++) {
            due("20 redo " + n, x.redo(), true);
        }
        due("20 no more", x.redo(), false);
        due("20 the year", x.about(4), 61);
    }

    private static void p21Fruit() {
        GraftedLaws x = Desk.grown("trait a 4;tree t;clause p on t says 1 set if a>0;clause q on t says 1 if a>1;clause r on t says 2 if a<2;");
        due("21 if it did not", x.fruit(0), 3);
        lie("21", x, 1, 2, 3);
        due("21 it says the same", x.fruit(1), 0);
        lie("21", x);
        due("21 if it did", x.fruit(2), 2);
        lie("21", x, 0, 1);
        due("21 none such", x.fruit(3), NONE);
        lie("21 nothing", x);
        for (int odd : ODD) {
            x.fruit(0);
            due("21 none such", x.fruit(odd), NONE);
            lie("21 nothing", x);
        }
        due("21 nothing was done", x.about(6), 1);
        x = Desk.grown("trait a 4;trait b 4;trait c 4;tree t;clause p on t says 1 if b+c>0;");
        due("21 more than forty", x.fruit(0), 60);
        due("21 forty lie there", x.about(14), 40);
        due("21 the first", x.lies(0), 1);
        due("21 the fortieth", x.lies(39), 42);
        due("21 no other", x.lies(40), NONE);
    }

    private static void p22Wish() {
        GraftedLaws x = Desk.grown("trait a 2;tree t;clause p on t says 3 if 1;");
        due("22 none", x.wish(0, -1), 1);
        due("22 split", x.wish(0, -2), 2);
        due("22 99", x.wish(1, 99), 3);
        due("22 100", x.wish(1, 100), NONE);
        due("22 -3", x.wish(1, -3), NONE);
        due("22 no case", x.wish(2, 1), NONE);
        for (int odd : new int[] {Integer.MIN_VALUE, Integer.MAX_VALUE, 1000}) {
            due("22 no case", x.wish(odd, 1), NONE);
            due("22 no verdict", x.wish(0, odd), NONE);
        }
        for (int n = 4; n <= 20; n++) {
            due("22 wish " + n, x.wish(1, 99), n);
        }
        due("22 there are twenty", x.wish(1, 99), NONE);
        due("22 nothing done", x.about(9), 20);
    }

    private static void p23Hush() {
        GraftedLaws x = Desk.grown("tree t;");
        due("23 none", x.hush(), 0);
        x.wish(0, 4);
        x.wish(0, 4);
        due("23 two", x.hush(), 2);
        due("23 none left", x.hush(), 0);
        due("23 none counts", x.least(0), 0);
        due("23 room again", x.wish(0, 4), 1);
    }

    private static void p24Least() {
        GraftedLaws x = Desk.grown("trait a 3;tree t;tree u;clause p on t says 1 set if 1;clause o on u says 9 if 1;clause q on t says 2 over p if a=1;"
            + "clause r on t says 2 over p if a>0;clause s on t says 3 over q over r if a=2;clause v on t says 8 if a=0;");
        due("24 without wishes", x.least(0), 0);
        x.wish(0, 1);
        due("24 it follows already", x.least(0), 0);
        GraftedLaws y = Desk.grown("trait a 3;tree t;clause p on t says 1 set if 1;clause q on t says 2 over p if a=1;"
            + "clause r on t says 2 over p if a=2;clause s on t says 2 over p if a>0;");
        y.wish(1, 2);
        y.wish(2, 2);
        due("24 one rather than two of lower numbers", y.least(0), 0b1000);
        x.wish(1, 2);
        due("24 of like ones the least", x.least(0), 0b100);
        x.wish(2, 2);
        due("24 both by one", x.least(0), 0b1000);
        x.hush();
        x.wish(1, 2);
        x.wish(2, SPLIT);
        due("24 a split by two", x.least(0), 0b10100);
        x.wish(0, SPLIT);
        due("24 by three", x.least(0), 0b110100);
        x.wish(0, 1);
        due("24 it can't be", x.least(0), NONE);
        x.hush();
        x.wish(2, NONE);
        due("24 none on a bare tree", x.least(1), 0);
        due("24 not on one whose clause bears", x.least(0), NONE);
        x.hush();
        x.graft(3);
        x.wish(1, 2);
        due("24 what is in does not bear yet", x.least(0), 0b100);
        x.year();
        due("24 now it does", x.least(0), 0);
        due("24 no tree", x.least(2), NONE);
        for (int odd : ODD) {
            due("24 no tree", x.least(odd), NONE);
        }
        due("24 nothing was done", x.about(6), 2);
    }

    private static void p25Pith() {
        GraftedLaws x = Desk.grown("trait a 3;tree t;tree u;clause p on t says 1 set if a<2;clause o on u says 9 set if 1;clause q on t says 1 set if a>0;"
            + "clause r on t says 1 set if 1;clause s on t says 1 if 1;clause v on u says 9 set if 1;");
        due("25 the fewest", x.pith(0), 0b1000);
        due("25 of like ones the least", x.pith(1), 0b10);
        x.prune(3);
        due("25 both are needed", x.pith(0), 0b101);
        x.graft(4);
        due("25 that does not bear yet", x.pith(0), 0b101);
        x.year();
        due("25 now it does", x.pith(0), 0b10000);
        x = Desk.grown("tree t;tree u;clause p on t says 1 set if 0;clause q on t says 1 set if 1;clause r on t says 2 set over q if 1;clause s on t says 2 set if 1;");
        due("25 where one is over another", x.pith(0), 0b100);
        due("25 a bare tree", x.pith(1), 0);
        due("25 no tree", x.pith(2), NONE);
        for (int odd : ODD) {
            due("25 no tree", x.pith(odd), NONE);
        }
    }

    private static void aimIs(String formula, int... wants) {
        GraftedLaws x = Desk.grown("trait a 4;aim " + formula + ";");
        for (int kase = 0; kase < wants.length; kase++) {
            due("26 " + formula + " of " + kase, x.aim(kase), wants[kase]);
        }
    }

    private static void p26Aim() {
        aimIs("a", 0, 1, 2, 3);
        aimIs("10-4-3", 3);
        aimIs("2+3*4-a", 14, 13, 12, 11);
        aimIs("20/3*2", 12);
        aimIs("(0-7)/2", -3);
        aimIs("(0-7)%2", -1);
        aimIs("7/a", 0, 7, 3, 2);
        aimIs("7%a", 0, 0, 1, 1);
        aimIs("9999*9999*9999", 9999 * 9999 * 9999);
        aimIs("a<2", 1, 1, 0, 0);
        aimIs("a>2", 0, 0, 0, 1);
        aimIs("a=2", 0, 0, 1, 0);
        aimIs("(a=2)+5", 5, 5, 6, 5);
        aimIs("5 and a", 0, 1, 1, 1);
        aimIs("0 or a", 0, 1, 1, 1);
        aimIs("a or 0 and 0", 0, 1, 1, 1);
        aimIs("1 or 0 and 0", 1);
        aimIs("not a", 1, 0, 0, 0);
        aimIs("not not a", 0, 1, 1, 1);
        aimIs("not a=2", 1, 1, 0, 1);
        aimIs("not a and 0", 0, 0, 0, 0);
        aimIs("1+a<a*2", 0, 0, 1, 1);
        aimIs("0-9999*9999*21-9999*9999*21", -(9999 * 9999 * 21) - 9999 * 9999 * 21);
        aimIs("(((((((a)))))))", 0, 1, 2, 3);
        String sevenNots = "not not not not not not not a";
        StringBuilder longest = new StringBuilder(sevenNots);
        for (int n = 1; n < 30; n++) {
            longest.append(n % 2 == 0 ? " and " : " or ").append(sevenNots);
        }
        aimIs(longest.toString(), 1, 0, 0, 0);
        aimIs("a+(a+(a+(a+(a+(a+(a+a))))))", 0, 8, 16, 24);
        GraftedLaws x = Desk.grown("trait a 2;");
        due("26 without", x.aim(1), 0);
        x = Desk.grown("aim 5;trait a 2;");
        due("26 ahead of a trait", x.aim(1), 5);
        due("26 no case", x.aim(2), 0);
        for (int odd : ODD) {
            due("26 no case", x.aim(odd), 0);
        }
    }

    private static void p27Holes() {
        GraftedLaws x = Desk.grown("trait a 4;tree t;tree u;clause p on t says 3 set if a<3;clause q on t says 4 set if a=1;aim a*2;");
        due("27 how many", x.holes(0, 0), 3);
        due("27 the greatest", x.holes(0, 1), 3);
        due("27 its gain", x.holes(0, 2), 6);
        due("27 on a bare tree", x.holes(1, 0), 3);
        x = Desk.grown("trait a 4;tree t;aim 7-(a=2)*9;");
        due("27 of like ones the first", x.holes(0, 1), 0);
        due("27 below 0 is none", x.holes(0, 0), 3);
        x = Desk.grown("trait a 4;tree t;aim 0-9999*9999*21;");
        due("27 none", x.holes(0, 0), 0);
        due("27 none", x.holes(0, 1), NONE);
        due("27 none", x.holes(0, 2), 0);
        due("27 another what", x.holes(0, 3), NONE);
        due("27 no tree", x.holes(1, 0), NONE);
        for (int odd : ODD) {
            due("27 another what", x.holes(0, odd), NONE);
            due("27 no tree", x.holes(odd, 0), NONE);
        }
    }

    private static void p28Gains() {
        GraftedLaws x = Desk.grown("trait a 4;trait b 4;trait c 4;trait d 4;tree t;clause p on t says 99 set if a=0;aim 9999*9999;");
        due("28 beyond an int", x.gains(0), 256L * 99980001L - 64L * 99L);
        due("28 no tree", x.gains(1), NONE);
        for (int odd : ODD) {
            due("28 no tree", x.gains(odd), NONE);
        }
        x = Desk.grown("trait a 4;tree t;aim a-2;");
        due("28 only loopholes", x.gains(0), 1);
    }

    private static void p29Mend() {
        GraftedLaws x = Desk.grown("trait a 4;tree t;tree u;clause p on t says 3 set if a=0;clause o on u says 9 if 1;clause q on t says 4 if a=0;"
            + "clause r on t says 1 if a=1;clause s on t says 5 if a=2;clause v on t says 5 if a=3;aim 5;");
        due("29 of like ones the first", x.mend(0), 4);
        due("29 on the other", x.mend(1), 1);
        x.graft(4);
        due("29 in, but not yet bearing", x.mend(0), 4);
        x.year();
        due("29 the next", x.mend(0), 5);
        x.graft(5);
        x.year();
        due("29 the next", x.mend(0), 3);
        x.graft(3);
        x.year();
        due("29 one by which they split would be worse", x.mend(0), NONE);
        due("29 no tree", x.mend(2), NONE);
        for (int odd : ODD) {
            due("29 no tree", x.mend(odd), NONE);
        }
    }

    private static void p30Evade() {
        GraftedLaws x = Desk.grown(FOUR_BY_FOUR + "tree t;clause p on t says 9 set if a=3 or b=3;clause q on t says 5 set if a<3 and b<3;"
            + "clause r on t says 2 set over q if a=2 and b=1;clause s on t says 1 set over q if a=0 and b=0;");
        due("30 the fewest traits", x.evade(0, 15), 0);
        due("30 of like ones the least", x.evade(0, 13), 9);
        due("30 of these the first", x.evade(0, 14), 2);
        due("30 from one that pays 5", x.evade(0, 1), 0);
        due("30 two traits", x.evade(0, 6), 0);
        due("30 who pays least", x.evade(0, 0), NONE);
        due("30 from 2 to 1", x.evade(0, 9), 0);
        due("30 no tree", x.evade(1, 0), NONE);
        due("30 no case", x.evade(0, 16), NONE);
        for (int odd : ODD) {
            due("30 no tree", x.evade(odd, 15), NONE);
            due("30 no case", x.evade(0, odd), NONE);
        }
        x = Desk.grown("trait a 3;tree t;clause p on t says 4 set if a<2;clause q on t says 6 set if a=1;");
        due("30 where they split one pays 0", x.evade(0, 0), 1);
        GraftedLaws y = Desk.grown("trait a 2;trait b 2;trait c 2;trait d 2;tree t;clause p on t says 4 set if a+b+c+d<4;");
        due("30 all four traits", y.evade(0, 0), 15);
        due("30 from there on none pays less", x.evade(0, 1), NONE);
    }

    private static void p31Unlike() {
        GraftedLaws x = Desk.grown("trait a 4;tree t;tree u;clause p on t says 4 set if a<2;clause q on u says 4 set if a<3;clause r on u says 0 set if a=0;clause s on t says 1 if 1;");
        due("31 unlike", x.unlike(0, 1), 2);
        lie("31", x, 0, 2);
        due("31 the other way", x.unlike(1, 0), 2);
        due("31 with itself", x.unlike(0, 0), 0);
        lie("31 nothing", x);
        for (int odd : new int[] {2, -1, Integer.MIN_VALUE, Integer.MAX_VALUE}) {
            x.unlike(0, 1);
            due("31 no tree", x.unlike(odd, 0), NONE);
            lie("31 nothing", x);
            x.unlike(0, 1);
            due("31 no tree", x.unlike(0, odd), NONE);
            lie("31 nothing", x);
        }
        x = Desk.grown("trait a 4;trait b 4;trait c 4;tree t;tree u;clause p on t says 1 set if 1;");
        due("31 more than forty", x.unlike(1, 0), 64);
        due("31 forty lie there", x.about(14), 40);
        due("31 the last of these", x.lies(39), 39);
    }

    private static void p32Reach() {
        GraftedLaws x = Desk.grown("tree t;tree u;clause p on t says 1 set if 1;clause o on u says 1 if 1;clause q on t says 1 needs p if 1;"
            + "clause r on t says 1 needs o if 1;clause s on t says 1 forbids if 1;clause v on t says 1 set bars p if 1;bears 9;suckers 1;");
        due("32 it is so", x.reach(0, 0b100001), 0);
        lie("32", x);
        due("32 a graft ahead of a pruning", x.reach(0, 0b000100), 3);
        lie("32 clause by clause", x, 2, 5, 0);
        due("32 of another tree it stays", x.reach(0, 0b101001), NONE);
        lie("32 nothing", x);
        due("32 what forbids comes last", x.reach(0, 0b110101), 2);
        lie("32", x, 2, 4);
        due("32 nothing bears, nothing was done", x.about(7), 0);
        x.graft(1);
        due("32 now it can be", x.reach(0, 0b101001), 1);
        lie("32", x, 3);
        due("32 another tree", x.reach(1, 0), 1);
        lie("32", x, 1);
        for (int odd : new int[] {0b000010, 0b1000000, -1, Integer.MIN_VALUE, 1 << 12, 1 << 30}) {
            x.reach(0, 0);
            due("32 reach(0, " + odd + ")", x.reach(0, odd), -2);
            lie("32 nothing", x);
        }
        for (int odd : ODD) {
            x.reach(0, 0);
            due("32 no tree", x.reach(odd, 0), -2);
            lie("32 nothing", x);
        }
        x.graft(4);
        x.prune(5);
        due("32 out of a set that forbids", x.reach(0, 0b100000), 3);
        lie("32", x, 0, 4, 5);
    }

    private static void p33Parties() {
        GraftedLaws x = Desk.grown("trait a 2;tree t;tree u;clause p on t says 5 set if 1;clause q on t says 9 over p if a=0;"
            + "clause r on t says 9 over p if a=1;clause s on t says 1 over q over r if 1;clause v on t says 5 if 1;");
        due("33 one turn", x.parties(0, 1, 0), 14);
        due("33 the first of like ones", x.parties(0, 1, 1), 1);
        due("33 the other takes it down again", x.parties(0, 2, 0), 1);
        due("33 choice", x.parties(0, 2, 1), 1);
        due("33 a third turn", x.parties(0, 3, 0), 2);
        due("33 on a bare tree", x.parties(1, 3, 0), 0);
        due("33 none", x.parties(1, 3, 1), NONE);
        due("33 no tree", x.parties(2, 1, 0), NONE);
        due("33 n", x.parties(0, 0, 0), NONE);
        due("33 n", x.parties(0, 4, 0), NONE);
        due("33 what", x.parties(0, 1, 2), NONE);
        for (int odd : ODD) {
            due("33 no tree", x.parties(odd, 1, 0), NONE);
            due("33 n", x.parties(0, odd, 0), NONE);
            due("33 what", x.parties(0, 1, odd), NONE);
        }
        due("33 nothing was done", x.about(7), 0);
        x = Desk.grown("tree t;clause p on t says 5 set if 1;clause q on t says 5 if 1;clause r on t says 4 if 1;");
        due("33 a clause as good as none", x.parties(0, 1, 1), 1);
        x = Desk.grown("tree t;clause p on t says 5 set if 1;clause q on t says 4 if 1;");
        due("33 none is better", x.parties(0, 1, 1), NONE);
        due("33 none", x.parties(0, 1, 0), 5);
    }

    private static void p34Lies() {
        GraftedLaws x = Desk.grown("trait a 4;tree t;clause p on t says 1 if a%2;");
        due("34 nothing yet", x.lies(0), NONE);
        x.fruit(0);
        due("34 the first", x.lies(0), 1);
        due("34 the second", x.lies(1), 3);
        due("34 no third", x.lies(2), NONE);
        for (int odd : ODD) {
            due("34 lies(" + odd + ")", x.lies(odd), NONE);
        }
        x.graft(0);
        x.year();
        due("34 it stays", x.lies(1), 3);
    }

    private static void p35Judge() {
        GraftedLaws x = Desk.grown("trait a 2;tree t;clause p on t says 1 if 1;");
        due("35 none", x.judge(0, 0, -1), 0);
        due("35 split", x.judge(0, 1, -2), 1);
        due("35 99", x.judge(0, 1, 99), 2);
        due("35 100", x.judge(0, 1, 100), NONE);
        due("35 -3", x.judge(0, 1, -3), NONE);
        due("35 no case", x.judge(0, 2, 1), NONE);
        due("35 no tree", x.judge(1, 0, 1), NONE);
        for (int odd : new int[] {Integer.MIN_VALUE, Integer.MAX_VALUE, 1000}) {
            due("35 no tree", x.judge(odd, 0, 1), NONE);
            due("35 no case", x.judge(0, odd, 1), NONE);
            due("35 no verdict", x.judge(0, 0, odd), NONE);
        }
        x.untell(0);
        for (int n = 3; n < 30; n++) {
            due("35 judgement " + n, x.judge(0, 0, 1), n);
        }
        due("35 there are thirty", x.judge(0, 0, 1), NONE);
        due("35 nothing done", x.about(10), 30);
    }

    private static void p36Untell() {
        GraftedLaws x = Desk.grown("tree t;clause p on t says 1 if 1;");
        due("36 none such", x.untell(0), false);
        x.judge(0, 0, 5);
        due("36 it counts", x.can(0, 0, 0), 0);
        due("36 untold", x.untell(0), true);
        due("36 already", x.untell(0), false);
        due("36 at the same time", x.can(0, 0, 0), 2);
        due("36 it is still there", x.about(10), 1);
        for (int odd : ODD) {
            due("36 none such", x.untell(odd), false);
        }
        due("36 none such", x.untell(1), false);
    }

    private static void p37Later() {
        GraftedLaws x = new GraftedLaws();
        due("37 by 0", x.later(0), 0);
        due("37 by 1000", x.later(1000), 1000);
        due("37 by 1001", x.later(1001), NONE);
        due("37 by -1", x.later(-1), NONE);
        due("37 by min", x.later(Integer.MIN_VALUE), NONE);
        due("37 by max", x.later(Integer.MAX_VALUE), NONE);
        due("37 nothing done", x.about(11), 1000);
        for (int n = 2; n <= 99; n++) {
            due("37 later", x.later(1000), n * 1000);
        }
        due("37 to 99999", x.later(999), 99999);
        due("37 too late", x.later(2), NONE);
        due("37 the last", x.later(1), 100000);
        due("37 too late", x.later(1), NONE);
        due("37 by 0", x.later(0), 100000);
    }

    private static void p38Can() {
        GraftedLaws x = Desk.grown("trait a 2;tree u;tree t;clause p on t says 1 set if 1;clause o on u says 1 if 1;clause q on t says 1 if a=1;clause r on t says 2 over p if a=1;");
        due("38 without judgements all", x.can(1, 0, 0), 8);
        due("38 in all", x.can(1, 1, 0), 0);
        due("38 in some", x.can(1, 2, 0), 0b1101);
        due("38 on the other tree", x.can(0, 0, 0), 2);
        x.judge(1, 1, 1);
        due("38 one counts", x.can(1, 0, 0), 3);
        due("38 in all", x.can(1, 1, 0), 0);
        due("38 in some", x.can(1, 2, 0), 0b0101);
        due("38 it is of its tree", x.can(0, 0, 0), 2);
        x.later(5);
        x.judge(1, 0, 1);
        due("38 two count", x.can(1, 0, 5), 2);
        due("38 in all", x.can(1, 1, 5), 0b0001);
        due("38 in some", x.can(1, 2, 5), 0b0101);
        due("38 as known before", x.can(1, 0, 4), 3);
        due("38 ahead of any", x.can(1, 0, -1), 8);
        due("38 later on", x.can(1, 0, 1000), 2);
        x.later(1);
        x.untell(0);
        due("38 the first does not count", x.can(1, 0, 6), 4);
        due("38 it did", x.can(1, 0, 5), 2);
        x.judge(1, 0, 7);
        due("38 no set", x.can(1, 0, 6), 0);
        due("38 no set", x.can(1, 1, 6), 0);
        due("38 no set", x.can(1, 2, 6), 0);
        due("38 no tree", x.can(2, 0, 0), NONE);
        due("38 another what", x.can(1, 3, 0), NONE);
        for (int odd : ODD) {
            due("38 no tree", x.can(odd, 0, 0), NONE);
            due("38 another what", x.can(1, odd, 0), NONE);
        }
    }

    private static void p39Ask() {
        GraftedLaws x = Desk.grown("trait a 4;tree t;clause p on t says 1 if a=1;clause q on t says 2 if a=3 or a=2;clause r on t says 3 if a=3 or a=2;");
        due("39 the first of like ones", x.ask(0, 0, 0), 2);
        due("39 at the most", x.ask(0, 1, 0), 2);
        x.judge(0, 2, SPLIT);
        due("39 the other case", x.ask(0, 0, 0), 1);
        due("39 at the most", x.ask(0, 1, 0), 1);
        x.later(3);
        x.judge(0, 1, NONE);
        due("39 one set: the first case", x.ask(0, 0, 3), 0);
        due("39 one set", x.ask(0, 1, 3), 1);
        due("39 as known before", x.ask(0, 0, 2), 1);
        x.judge(0, 0, 9);
        due("39 no set", x.ask(0, 0, 3), NONE);
        due("39 no set", x.ask(0, 1, 3), NONE);
        StringBuilder twelve = new StringBuilder("trait a 2;tree t;");
        for (char c = 'a'; c <= 'l'; c++) {
            twelve.append("clause ").append(c).append(" on t says 1 if 0;");
        }
        GraftedLaws y = Desk.grown(twelve.toString());
        due("39 nothing tells anything", y.ask(0, 0, 0), 0);
        due("39 all sets are left", y.ask(0, 1, 0), 4096);
        due("39 all sets", y.can(0, 0, 0), 4096);
        due("39 each is in some", y.can(0, 2, 0), 4095);
        due("39 no tree", x.ask(1, 0, 0), NONE);
        due("39 another what", x.ask(0, 2, 0), NONE);
        for (int odd : ODD) {
            due("39 no tree", x.ask(odd, 0, 0), NONE);
            due("39 another what", x.ask(0, odd, 0), NONE);
        }
    }

    private static void p40Image() {
        GraftedLaws x = Desk.grown("tree t;clause p on t says 1 set if 1;");
        x.year();
        due("40 box 0", x.image(0), 1);
        x.year();
        due("40 box 2", x.image(2), 2);
        due("40 no box", x.image(3), NONE);
        for (int odd : ODD) {
            due("40 no box", x.image(odd), NONE);
        }
        due("40 no act", x.about(7), 2);
        due("40 nothing in 1", x.back(1), NONE);
        due("40 from 0", x.back(0), 1);
        due("40 from 2", x.back(2), 2);
        due("40 over again", x.image(0), 2);
        due("40 from 0", x.back(0), 2);
    }

    private static void p41Back() {
        GraftedLaws x = Desk.grown("tree t;clause p on t says 1 set if 1;clause q on t says 2 if 1;clause r on t says 2 set if 1;suckers 4;bears 2;seed 9;");
        x.year();
        x.graft(1);
        x.prune(2);
        x.storm();
        x.wish(0, 1);
        x.judge(0, 0, 1);
        x.later(2);
        x.image(1);
        int seed = x.about(5);
        x.year();
        x.year();
        x.year();
        x.year();
        x.undo();
        x.storm();
        x.fruit(1);
        due("41 the year", x.back(1), 1);
        due("41 the seed", x.about(5), seed);
        due("41 what is in", x.about(6), 1);
        due("41 the year", x.about(4), 1);
        due("41 no acts", x.about(7) + x.about(8), 0);
        due("41 undo", x.undo(), false);
        due("41 redo", x.redo(), false);
        due("41 wishes stay", x.about(9), 1);
        due("41 judgements stay", x.about(10), 1);
        due("41 the time stays", x.about(11), 2);
        due("41 what suckers", x.clause(2, 5), 5);
        x.year();
        due("41 undone behind it", x.undo(), true);
        due("41 no further", x.undo(), false);
        due("41 again", x.back(1), 1);
        for (int n = 0; n < 4; n++) {
            x.year();
        }
        due("41 it suckered", x.clause(2, 4), 5);
        due("41 nothing there", x.back(0), NONE);
        due("41 nothing done", x.about(7), 4);
        for (int odd : ODD) {
            due("41 no box", x.back(odd), NONE);
        }
        due("41 no box", x.back(3), NONE);
    }

    private static void p42About() {
        GraftedLaws x = Desk.grown("trait a 2;trait b 4;tree t;tree u;clause p on t says 1 set if (a+1)*b;clause q on t says 2 set over p needs p bars p if 1;"
            + "clause r on u says 2 needs q needs q if not a;aim 3-b;seed 8;");
        x.year();
        x.graft(2);
        x.year();
        x.undo();
        x.wish(0, 1);
        x.judge(0, 0, 1);
        x.judge(0, 0, 1);
        x.later(9);
        x.fruit(1);
        x.feed(1, 2, 3, 4, 5);
        int[] wants = {2, 8, 2, 3, 1, 8, 3, 2, 1, 1, 2, 9, 20, 8, 8, 5};
        for (int what = 0; what < wants.length; what++) {
            due("42 about(" + what + ")", x.about(what), wants[what]);
        }
        due("42 about(16)", x.about(16), NONE);
        for (int odd : ODD) {
            due("42 about(" + odd + ")", x.about(odd), NONE);
        }
    }
}
