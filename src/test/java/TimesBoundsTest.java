/** The bounds of part 4 of the document: judgements, the two times in which they are known, what can have been, what to ask. */
public final class TimesBoundsTest {
    private static final Desk DESK = new Desk("TimesBoundsTest");
    private static final int NONE = -1;
    private static final int SPLIT = -2;
    private static final int[] FAR = {Integer.MIN_VALUE, -256, -2, -1, 12, 32, 256, 4096, Integer.MAX_VALUE};

    public static void main(String[] args) {
        thirtyJudgements();
        judgeCantBe();
        untellOnce();
        timeGoesOn();
        lastTime();
        timeStays();
        toldAtKOrBefore();
        untoldAtKOrBefore();
        onItsTree();
        ofNoneAndSplit();
        whetherTheyBearOrNot();
        inAllAndInSome();
        canCantBe();
        askFewest();
        askOfLikeOnes();
        askWithoutSets();
        askCantBe();
        DESK.close();
    }

    private static void due(String call, long got, long want) {
        DESK.due(call, got, want);
    }

    private static void due(String call, boolean got, boolean want) {
        DESK.due(call, got, want);
    }

    /** JUDGEMENTS, 30 at most; promise 35: its number; NONE, doing nothing, if there are 30. */
    private static void thirtyJudgements() {
        GraftedLaws x = Desk.grown("trait a 2;tree t;clause p on t says 5 if 1;clause q on t says 6 if a;");
        for (int n = 0; n < 29; n++) {
            due("judgement " + n, x.judge(0, 0, 5), n);
            due("how many", x.about(10), n + 1);
        }
        due("sets", x.can(0, 0, 0), 2);
        due("the thirtieth", x.judge(0, 1, 5), 29);
        due("it counts", x.can(0, 0, 0), 1);
        due("no other", x.judge(0, 1, SPLIT), NONE);
        due("no other, the same", x.judge(0, 0, 5), NONE);
        due("thirty", x.about(10), 30);
        due("the others count as they did", x.can(0, 0, 0), 1);
        due("the last is untold", x.untell(29), true);
        due("it counts no more", x.can(0, 0, 0), 2);
        due("it is one all the same", x.about(10), 30);
        due("no other", x.judge(0, 1, 5), NONE);
        due("none such", x.untell(30), false);
    }

    /** Promise 35: NONE, doing nothing, if one can't be (a VERDICT -2 .. 99). */
    private static void judgeCantBe() {
        GraftedLaws x = Desk.grown("trait a 3;tree t;tree u;");
        due("a verdict 0", x.judge(0, 0, 0), 0);
        due("a verdict 99", x.judge(1, 2, 99), 1);
        due("none", x.judge(1, 2, -1), 2);
        due("split", x.judge(1, 2, -2), 3);
        due("a verdict 100", x.judge(0, 0, 100), NONE);
        due("a verdict -3", x.judge(0, 0, -3), NONE);
        due("no case", x.judge(0, 3, 0), NONE);
        due("no case", x.judge(0, -1, 0), NONE);
        due("no tree", x.judge(2, 0, 0), NONE);
        due("no tree", x.judge(-1, 0, 0), NONE);
        for (int far : new int[] {Integer.MIN_VALUE, -256, 256, Integer.MAX_VALUE}) {
            due("no tree", x.judge(far, 0, 0), NONE);
            due("no case", x.judge(0, far, 0), NONE);
            due("no verdict", x.judge(0, 0, far), NONE);
        }
        due("nothing was done", x.about(10), 4);
        due("no tree at all", new GraftedLaws().judge(0, 0, 0), NONE);
    }

    /** Promise 36: it is UNTOLD: true; false if it is so already, or there is none such. */
    private static void untellOnce() {
        GraftedLaws x = Desk.grown("tree t;clause p on t says 5 if 1;");
        due("none such", x.untell(0), false);
        x.judge(0, 0, 5);
        x.judge(0, 0, 6);
        due("none such", x.untell(2), false);
        for (int far : FAR) {
            due("none such", x.untell(far), false);
        }
        due("no set", x.can(0, 0, 0), 0);
        due("the last", x.untell(1), true);
        due("so already", x.untell(1), false);
        x.later(3);
        due("so already", x.untell(1), false);
        due("the first", x.untell(0), true);
        due("so already", x.untell(0), false);
        due("one counted between", x.can(0, 0, 2), 1);
        due("none counts now", x.can(0, 0, 3), 2);
        Desk.feed(x, "tree t;");
        x.orchard();
        due("none behind another orchard", x.untell(0), false);
        due("how many", x.about(10), 0);
        x.judge(0, 0, 5);
        x.judge(0, 0, 5);
        Desk.feed(x, "tree t;");
        x.orchard();
        due("none, though those of another orchard were not untold", x.untell(0), false);
        x.judge(0, 0, 5);
        due("no second one", x.untell(1), false);
        due("the first", x.untell(0), true);
    }

    /** Promise 37: so much later (0 .. 1000): the TIME; NONE, doing nothing, for another number. */
    private static void timeGoesOn() {
        GraftedLaws x = new GraftedLaws();
        due("0 at first", x.about(11), 0);
        due("by 0", x.later(0), 0);
        due("by 1", x.later(1), 1);
        due("by 999", x.later(999), 1000);
        due("by 1000", x.later(1000), 2000);
        due("by 1001", x.later(1001), NONE);
        due("by -1", x.later(-1), NONE);
        for (int far : new int[] {Integer.MIN_VALUE, -1000, -1001, 2000, 100000, Integer.MAX_VALUE}) {
            due("by " + far, x.later(far), NONE);
        }
        due("nothing was done", x.about(11), 2000);
    }

    /** Or if it would be above 100,000. */
    private static void lastTime() {
        GraftedLaws x = new GraftedLaws();
        for (int n = 1; n <= 99; n++) {
            due("later", x.later(1000), n * 1000);
        }
        due("to 99,500", x.later(500), 99500);
        due("to 100,500", x.later(1000), NONE);
        due("to 100,001", x.later(501), NONE);
        due("nothing was done", x.about(11), 99500);
        due("to 99,999", x.later(499), 99999);
        due("to 100,001", x.later(2), NONE);
        due("to 100,000", x.later(1), 100000);
        due("to 100,001", x.later(1), NONE);
        due("to 101,000", x.later(1000), NONE);
        due("by 0", x.later(0), 100000);
        due("the time", x.about(11), 100000);
        Desk.feed(x, "tree t;clause p on t says 1 if 1;");
        x.orchard();
        x.judge(0, 0, 1);
        due("known at the last time", x.can(0, 0, 100000), 1);
        due("not known ahead of it", x.can(0, 0, 99999), 2);
    }

    /** Promise 4: the TIME stays. */
    private static void timeStays() {
        GraftedLaws x = Desk.grown("tree t;clause p on t says 1 if 1;");
        x.later(7);
        x.judge(0, 0, 1);
        x.image(0);
        x.later(2);
        due("back", x.back(0), 0);
        due("behind back", x.about(11), 9);
        Desk.feed(x, "tree t;oh");
        due("a fault", x.orchard(), NONE);
        due("behind a fault", x.about(11), 9);
        due("the judgement stays", x.can(0, 0, 7), 1);
        Desk.feed(x, "tree t;clause p on t says 1 if 1;");
        due("an orchard", x.orchard(), 1);
        due("behind an orchard", x.about(11), 9);
        due("no judgement", x.can(0, 0, 9), 2);
        due("the first anew", x.judge(0, 0, 1), 0);
        due("told at the time that it is", x.can(0, 0, 8), 2);
        due("told at the time that it is", x.can(0, 0, 9), 1);
    }

    /** As known at k those count that were TOLD at k or before. */
    private static void toldAtKOrBefore() {
        GraftedLaws x = Desk.grown("tree t;clause p on t says 1 if 1;");
        x.later(5);
        x.judge(0, 0, 1);
        int[] known = {Integer.MIN_VALUE, -1, 0, 4, 5, 6, 1000, Integer.MAX_VALUE};
        int[] wants = {2, 2, 2, 2, 1, 1, 1, 1};
        for (int i = 0; i < known.length; i++) {
            due("can(0, 0, " + known[i] + ")", x.can(0, 0, known[i]), wants[i]);
            due("ask(0, 1, " + known[i] + ")", x.ask(0, 1, known[i]), 1);
        }
        x = Desk.grown("tree t;clause p on t says 1 if 1;");
        x.judge(0, 0, 1);
        due("at 0", x.can(0, 0, 0), 1);
        due("ahead of 0", x.can(0, 0, -1), 2);
    }

    /** Not UNTOLD at k or before; UNTOLD at a later one or the same. */
    private static void untoldAtKOrBefore() {
        GraftedLaws x = Desk.grown("tree t;clause p on t says 1 if 1;");
        x.later(5);
        x.judge(0, 0, 1);
        x.later(3);
        x.untell(0);
        int[] known = {Integer.MIN_VALUE, 0, 4, 5, 6, 7, 8, 9, 1000, Integer.MAX_VALUE};
        int[] wants = {2, 2, 2, 1, 1, 1, 2, 2, 2, 2};
        for (int i = 0; i < known.length; i++) {
            due("can(0, 0, " + known[i] + ")", x.can(0, 0, known[i]), wants[i]);
        }
        x = Desk.grown("tree t;clause p on t says 1 if 1;");
        x.judge(0, 0, 1);
        x.untell(0);
        due("at the same time: never known", x.can(0, 0, 0), 2);
        due("nor later", x.can(0, 0, 1), 2);
        x.judge(0, 0, 1);
        due("told anew", x.can(0, 0, 0), 1);
        x.later(1);
        x.untell(1);
        due("known till then", x.can(0, 0, 0), 1);
        due("not from then on", x.can(0, 0, 1), 2);
    }

    /** By which all that count on it FOLLOW. */
    private static void onItsTree() {
        GraftedLaws x = Desk.grown("tree t;tree u;tree v;clause p on t says 1 if 1;clause q on u says 1 if 1;clause r on u says 2 if 1;");
        x.judge(0, 0, 1);
        due("on t", x.can(0, 0, 0), 1);
        due("on u", x.can(1, 0, 0), 4);
        due("on a bare tree: the empty set", x.can(2, 0, 0), 1);
        x.judge(1, 0, SPLIT);
        due("on t", x.can(0, 1, 0), 0b001);
        due("on u", x.can(1, 1, 0), 0b110);
        x.judge(2, 0, 7);
        due("on a bare tree", x.can(2, 0, 0), 0);
        due("on u", x.can(1, 0, 0), 1);
    }

    /** There FOLLOWED a VERDICT (NONE, SPLIT too). */
    private static void ofNoneAndSplit() {
        GraftedLaws x = Desk.grown("trait a 2;tree t;clause p on t says 0 if 1;clause q on t says 1 if a;");
        x.judge(0, 0, NONE);
        due("none: without p", x.can(0, 2, 0), 0b10);
        x.untell(0);
        x.judge(0, 0, 0);
        due("0 is not none", x.can(0, 1, 0), 0b01);
        x.untell(1);
        x.judge(0, 1, SPLIT);
        due("split: with both", x.can(0, 1, 0), 0b11);
        x.judge(0, 1, NONE);
        due("both can't be", x.can(0, 0, 0), 0);
    }

    /** Sets of its CLAUSES (whether they BEAR or not). */
    private static void whetherTheyBearOrNot() {
        GraftedLaws x = Desk.grown("tree t;clause p on t says 1 set if 1;clause q on t says 2 needs p if 1;clause r on t says 3 set forbids if 1;");
        due("all sets", x.can(0, 0, 0), 8);
        x.judge(0, 0, 2);
        due("q alone", x.can(0, 0, 0), 1);
        due("q alone", x.can(0, 1, 0), 0b010);
        x.prune(0);
        x.storm();
        due("whatever is in", x.can(0, 1, 0), 0b010);
    }

    /** How many; CLAUSES in all, in some (0 without sets). */
    private static void inAllAndInSome() {
        GraftedLaws x = Desk.grown("trait a 2;tree u;tree t;clause o on u says 1 if 1;clause p on t says 1 if 1;clause q on t says 1 if a;clause r on t says 2 if a=0;");
        due("all sets", x.can(1, 0, 0), 8);
        due("in all", x.can(1, 1, 0), 0);
        due("in some", x.can(1, 2, 0), 0b1110);
        x.judge(1, 0, 1);
        due("sets", x.can(1, 0, 0), 2);
        due("in all", x.can(1, 1, 0), 0b0010);
        due("in some", x.can(1, 2, 0), 0b0110);
        x.judge(1, 1, NONE);
        due("no sets", x.can(1, 0, 0), 0);
        x.untell(1);
        x.untell(0);
        x.judge(1, 0, SPLIT);
        x.judge(1, 1, 1);
        due("in all", x.can(1, 1, 0), 0b1010);
        due("in some", x.can(1, 2, 0), 0b1110);
        x.judge(0, 0, 1);
        due("one set alone", x.can(0, 0, 0), 1);
        due("in all", x.can(0, 1, 0), 0b0001);
        due("in some", x.can(0, 2, 0), 0b0001);
        x.judge(1, 0, 2);
        due("no sets", x.can(1, 0, 0), 0);
        due("in all of none", x.can(1, 1, 0), 0);
        due("in some of none", x.can(1, 2, 0), 0);
        StringBuilder twelve = new StringBuilder("tree t;");
        for (char c = 'a'; c <= 'l'; c++) {
            twelve.append("clause ").append(c).append(" on t says ").append(c - 'a').append(" if 1;");
        }
        x = Desk.grown(twelve.toString());
        due("all sets of twelve", x.can(0, 0, 0), 4096);
        x.judge(0, 0, SPLIT);
        due("all but the empty one and those of one", x.can(0, 0, 0), 4096 - 13);
        due("in some", x.can(0, 2, 0), 4095);
        x.untell(0);
        x.judge(0, 0, 11);
        due("the last alone", x.can(0, 1, 0), 2048);
    }

    /** Promise 38: NONE if one can't be. */
    private static void canCantBe() {
        GraftedLaws x = Desk.grown("tree t;clause p on t says 1 if 1;");
        int[] wants = {2, 0, 1};
        for (int what = 0; what <= 2; what++) {
            due("can(0, " + what + ", 0)", x.can(0, what, 0), wants[what]);
            due("no tree", x.can(1, what, 0), NONE);
            for (int far : FAR) {
                due("no tree", x.can(far, what, 0), NONE);
            }
        }
        due("no what", x.can(0, 3, 0), NONE);
        for (int far : FAR) {
            due("no what", x.can(0, far, 0), NONE);
        }
    }

    /** The CASE for which the most sets that are left, whatever FOLLOWS, are fewest. */
    private static void askFewest() {
        GraftedLaws x = Desk.grown("trait a 4;tree t;clause p on t says 1 if a=1 or a=3;clause q on t says 2 if a>1;clause r on t says 3 if a=3;");
        due("no case leaves fewer than the first to which one applies", x.ask(0, 0, 0), 1);
        due("a split leaves four of eight", x.ask(0, 1, 0), 4);
        x = Desk.grown("trait a 4;tree t;clause p on t says 1 if a=1 or a=3;clause q on t says 2 if a>1;clause r on t says 3 if a=2;");
        due("to which two apply", x.ask(0, 0, 0), 2);
        due("two of eight, whatever follows", x.ask(0, 1, 0), 2);
        x = Desk.grown("trait a 4;tree t later;clause p on t says 1 if a=1 or a=3;clause q on t says 2 if a>1;clause r on t says 3 if a=2;");
        due("the case", x.ask(0, 0, 0), 1);
        due("at the most", x.ask(0, 1, 0), 4);
        x = Desk.grown("trait a 4;tree t;clause p on t says 1 if a=3;clause q on t says 2 if a=3;");
        due("the last case", x.ask(0, 0, 0), 3);
        due("none, either, or a split", x.ask(0, 1, 0), 1);
        x.judge(0, 3, SPLIT);
        due("nothing is left to ask: the first", x.ask(0, 0, 0), 0);
        due("one set", x.ask(0, 1, 0), 1);
        StringBuilder wide = new StringBuilder("trait a 4;trait b 4;trait c 4;trait d 4;tree t;");
        wide.append("clause p on t says 99 if a*64+b*16+c*4+d=255;clause q on t says 0 if a*64+b*16+c*4+d>253;");
        x = Desk.grown(wide.toString());
        due("the last of 256", x.ask(0, 0, 0), 255);
        due("at the most", x.ask(0, 1, 0), 1);
    }

    /** Of like ones the first. */
    private static void askOfLikeOnes() {
        GraftedLaws x = Desk.grown("trait a 4;tree t;clause p on t says 1 if a=1;clause q on t says 2 if a=2;clause r on t says 3 if a=3;");
        due("the first of three", x.ask(0, 0, 0), 1);
        due("half of them", x.ask(0, 1, 0), 4);
        x.judge(0, 1, NONE);
        due("the first of two", x.ask(0, 0, 0), 2);
        x.judge(0, 2, 2);
        due("the last", x.ask(0, 0, 0), 3);
        due("one of two", x.ask(0, 1, 0), 1);
        due("as known ahead of them", x.ask(0, 0, -1), 1);
        x = Desk.grown("trait a 4;tree t;");
        due("a bare tree: the first case", x.ask(0, 0, 0), 0);
        due("its one set", x.ask(0, 1, 0), 1);
        StringBuilder twelve = new StringBuilder("trait a 2;tree t;");
        for (char c = 'a'; c <= 'l'; c++) {
            twelve.append("clause ").append(c).append(" on t says 99 if 0;");
        }
        x = Desk.grown(twelve.toString());
        due("no case tells anything: the first", x.ask(0, 0, 0), 0);
        due("all sets are left", x.ask(0, 1, 0), 4096);
        x = Desk.grown("trait a 2;tree t;clause p on t says 99 if 1;clause q on t says 99 if a;");
        due("case 0 leaves two and two, case 1 one and three by 99", x.ask(0, 0, 0), 0);
        due("at the most", x.ask(0, 1, 0), 2);
        for (int verdict : new int[] {0, 1, 98, 99}) {
            x = Desk.grown("tree t;clause p on t says " + verdict + " if 1;clause q on t says " + verdict + " if 1;");
            due("three of four by " + verdict, x.ask(0, 1, 0), 3);
        }
        x = Desk.grown("tree t later;clause p on t says 3 if 1;clause q on t says 4 if 1;clause r on t says 3 if 0;");
        due("four of eight by 4", x.ask(0, 1, 0), 4);
        x.judge(0, 0, NONE);
        due("two by none", x.ask(0, 1, 0), 2);
    }

    /** Promise 39: NONE without sets. */
    private static void askWithoutSets() {
        GraftedLaws x = Desk.grown("trait a 2;tree t;clause p on t says 1 if 1;");
        x.judge(0, 0, 1);
        due("one set", x.ask(0, 0, 0), 0);
        due("one set", x.ask(0, 1, 0), 1);
        x.later(1);
        x.judge(0, 0, 2);
        due("no set", x.ask(0, 0, 1), NONE);
        due("no set", x.ask(0, 1, 1), NONE);
        due("as known before", x.ask(0, 0, 0), 0);
        x.later(1);
        x.untell(1);
        due("again one", x.ask(0, 1, 2), 1);
    }

    /** Promise 39: or if one can't be. */
    private static void askCantBe() {
        GraftedLaws x = Desk.grown("tree t;clause p on t says 1 if 1;");
        for (int what = 0; what <= 1; what++) {
            due("ask(0, " + what + ", 0)", x.ask(0, what, 0), what);
            due("no tree", x.ask(1, what, 0), NONE);
            for (int far : FAR) {
                due("no tree", x.ask(far, what, 0), NONE);
            }
        }
        due("no what", x.ask(0, 2, 0), NONE);
        for (int far : FAR) {
            due("no what", x.ask(0, far, 0), NONE);
        }
        due("no tree at all", new GraftedLaws().ask(0, 0, 0), NONE);
    }
}
