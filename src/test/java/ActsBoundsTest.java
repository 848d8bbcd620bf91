/** The bounds of what is in earnest: grafts, prunings, years, storms, what is undone, and boxes. */
public final class ActsBoundsTest {
    private static final Desk DESK = new Desk("ActsBoundsTest");
    private static final int NONE = -1;
    private static final int[] FAR = {Integer.MIN_VALUE, -256, -2, -1, 12, 32, 256, 4096, Integer.MAX_VALUE};

    public static void main(String[] args) {
        atFirst();
        setIsIn();
        bearsYearsBehind();
        onlyWhatIsOut();
        whatItNeeds();
        whatForbids();
        onlyWhatIsIn();
        whatBars();
        suckersYearsBehind();
        noughtIsNever();
        ifItIsNotInByThen();
        prunedTwice();
        suckersWhateverItNeeds();
        firstTheYear();
        lastYear();
        seedOfAStorm();
        placeOfAStorm();
        stormOfNone();
        stormsDoNotSucker();
        undoAndRedo();
        tillAnotherAct();
        fortyAreKept();
        fortyAreRedone();
        mayCantBe();
        graftCantBe();
        pruneCantBe();
        boxes();
        backKeepsNoActs();
        DESK.close();
    }

    private static void due(String call, long got, long want) {
        DESK.due(call, got, want);
    }

    private static void due(String call, boolean got, boolean want) {
        DESK.due(call, got, want);
    }

    private static void years(GraftedLaws x, int many) {
        for (int n = 0; n < many; n++) {
            x.year();
        }
    }

    /** In earnest there is a YEAR (0 at first), a SEED (seed, at first). */
    private static void atFirst() {
        GraftedLaws x = Desk.grown("seed 417;");
        due("the year", x.about(4), 0);
        due("the seed", x.about(5), 417);
        due("the seed of a new object", new GraftedLaws().about(5), 0);
        due("the year of a new object", new GraftedLaws().about(4), 0);
        x.year();
        x.storm();
        Desk.feed(x, "seed 5;");
        x.orchard();
        due("the year of the next orchard", x.about(4), 0);
        due("the seed of the next orchard", x.about(5), 5);
    }

    /** CLAUSES told set are IN from the beginning, all others are OUT; those IN from the beginning BEAR at once. */
    private static void setIsIn() {
        GraftedLaws x = Desk.grown("tree t;clause p on t says 1 if 1;clause q on t says 2 set needs p if 1;clause r on t says 2 set forbids if 1;"
            + "clause s on t says 2 set if 1;bears 9;");
        int[] in = {0, 1, 1, 1};
        for (int clause = 0; clause < 4; clause++) {
            due("in, whatever it needs and what forbids", x.clause(clause, 2), in[clause]);
            due("bears at once", x.clause(clause, 3), in[clause]);
            due("from", x.clause(clause, 4), in[clause] == 1 ? 0 : NONE);
            due("suckers", x.clause(clause, 5), NONE);
        }
        due("how many", x.about(6), 3);
    }

    /** It is IN, and BEARS bears YEARS behind. */
    private static void bearsYearsBehind() {
        for (int bears = 0; bears <= 9; bears++) {
            GraftedLaws x = Desk.grown("tree t;clause p on t says 6 if 1;bears " + bears + ";");
            x.year();
            due("graft", x.graft(0), 1 + bears);
            due("in at once", x.clause(0, 2), 1);
            due("from", x.clause(0, 4), 1 + bears);
            for (int n = 0; n < bears; n++) {
                due("not yet, " + n + " of " + bears, x.clause(0, 3), 0);
                due("nothing follows yet", x.follows(0, 0), NONE);
                x.year();
            }
            due("now, " + bears, x.clause(0, 3), 1);
            due("it follows", x.follows(0, 0), 6);
            x.year();
            due("and on", x.clause(0, 3), 1);
        }
    }

    /** A CLAUSE that is OUT is GRAFTED. */
    private static void onlyWhatIsOut() {
        GraftedLaws x = Desk.grown("tree t;clause p on t says 6 if 1;bears 2;");
        due("it is out", x.may(0, 0), 1);
        due("graft", x.graft(0), 2);
        due("it is in, though it does not bear", x.may(0, 0), 0);
        due("not again", x.graft(0), NONE);
        x.year();
        due("not again", x.graft(0), NONE);
        due("it bears as grafted", x.clause(0, 4), 2);
        x.prune(0);
        due("out again", x.may(0, 0), 1);
        due("grafted anew", x.graft(0), 3);
    }

    /** Not if one that it needs is not IN. */
    private static void whatItNeeds() {
        GraftedLaws x = Desk.grown("tree t;tree u;clause p on t says 6 if 1;clause q on u says 6 if 1;clause r on t says 6 needs p needs q if 1;bears 3;");
        due("neither is in", x.may(2, 0), 0);
        x.graft(0);
        due("one is in", x.may(2, 0), 0);
        due("graft", x.graft(2), NONE);
        x.graft(1);
        due("both are in, though they do not bear", x.may(2, 0), 1);
        x.prune(0);
        due("only the other one", x.may(2, 0), 0);
        x.graft(0);
        due("graft", x.graft(2), 3);
        x.prune(1);
        due("it stays, if what it needs goes", x.clause(2, 2), 1);
        x.prune(2);
        due("but does not come back", x.may(2, 0), 0);
    }

    /** Or one that forbids is IN on its TREE. */
    private static void whatForbids() {
        GraftedLaws x = Desk.grown("tree t;tree u;clause p on t says 6 if 1;clause q on u says 6 if 1;clause r on t says 6 forbids if 1;clause s on t says 6 forbids if 1;");
        due("it is out", x.may(0, 0), 1);
        due("one that forbids is grafted", x.graft(2), 1);
        due("it is in, though it does not bear", x.may(0, 0), 0);
        due("not on another tree", x.may(1, 0), 1);
        due("another one that forbids", x.may(3, 0), 0);
        due("graft", x.graft(0), NONE);
        x.prune(2);
        due("it is out again", x.may(0, 0), 1);
        due("it does not forbid itself", x.may(2, 0), 1);
        x.graft(0);
        due("what is in may be pruned all the same", x.graft(2), 1);
        due("pruned", x.prune(0), true);
        due("and does not come back", x.graft(0), NONE);
    }

    /** A CLAUSE that is IN is PRUNED: it is OUT. */
    private static void onlyWhatIsIn() {
        GraftedLaws x = Desk.grown("tree t;clause p on t says 6 set if 1;clause q on t says 6 if 1;bears 4;");
        due("it is in", x.may(0, 1), 1);
        due("prune", x.prune(0), true);
        due("out", x.clause(0, 2), 0);
        due("it does not bear", x.clause(0, 3), 0);
        due("from", x.clause(0, 4), NONE);
        due("not again", x.prune(0), false);
        due("it is out", x.may(0, 1), 0);
        due("it was never in", x.prune(1), false);
        x.graft(1);
        due("what does not bear yet", x.prune(1), true);
        years(x, 5);
        due("it never bears", x.clause(1, 3), 0);
    }

    /** Not if one that bars it is IN. */
    private static void whatBars() {
        GraftedLaws x = Desk.grown("tree t;tree u;clause p on t says 6 set if 1;clause q on t says 6 bars p if 1;clause r on u says 6 bars p if 1;bears 5;");
        due("those that bar are out", x.may(0, 1), 1);
        x.graft(1);
        due("one is in, though it does not bear", x.may(0, 1), 0);
        due("prune", x.prune(0), false);
        due("it is in", x.clause(0, 2), 1);
        due("what bars is not barred", x.may(1, 1), 1);
        x.graft(2);
        x.prune(1);
        due("one of another tree", x.may(0, 1), 0);
        x.prune(2);
        due("both are out", x.may(0, 1), 1);
        due("prune", x.prune(0), true);
    }

    /** Behind suckers YEARS it is IN again, and BEARS at once. */
    private static void suckersYearsBehind() {
        for (int suckers = 1; suckers <= 9; suckers++) {
            GraftedLaws x = Desk.grown("tree t;clause p on t says 6 set if 1;bears 9;suckers " + suckers + ";");
            years(x, 2);
            x.prune(0);
            due("the year in which it suckers", x.clause(0, 5), 2 + suckers);
            for (int n = 0; n < suckers; n++) {
                due("not yet, " + n + " of " + suckers, x.clause(0, 2), 0);
                due("still due", x.clause(0, 5), 2 + suckers);
                x.year();
            }
            due("in, " + suckers, x.clause(0, 2), 1);
            due("bears at once", x.clause(0, 3), 1);
            due("from this year on", x.clause(0, 4), 2 + suckers);
            due("due no more", x.clause(0, 5), NONE);
            due("it follows", x.follows(0, 0), 6);
            x.prune(0);
            due("due anew", x.clause(0, 5), 2 + suckers + suckers);
        }
    }

    /** (0: never). */
    private static void noughtIsNever() {
        for (String suckers : new String[] {"", "suckers 0;"}) {
            GraftedLaws x = Desk.grown("tree t;clause p on t says 6 set if 1;" + suckers);
            x.prune(0);
            due("it is not due", x.clause(0, 5), NONE);
            years(x, 30);
            due("out for good", x.clause(0, 2), 0);
        }
    }

    /** If it is not IN by then. */
    private static void ifItIsNotInByThen() {
        GraftedLaws x = Desk.grown("tree t;clause p on t says 6 set if 1;bears 7;suckers 2;");
        x.prune(0);
        x.graft(0);
        due("still due", x.clause(0, 5), 2);
        years(x, 2);
        due("in as grafted", x.clause(0, 4), 7);
        due("it does not bear yet", x.clause(0, 3), 0);
        due("due no more", x.clause(0, 5), NONE);
        years(x, 5);
        due("bears as grafted", x.clause(0, 3), 1);
    }

    private static void prunedTwice() {
        GraftedLaws x = Desk.grown("tree t;clause p on t says 6 set if 1;bears 0;suckers 3;");
        x.prune(0);
        x.year();
        x.graft(0);
        due("due by the first pruning", x.clause(0, 5), 3);
        x.prune(0);
        due("due by the second one", x.clause(0, 5), 4);
        years(x, 2);
        due("out in year 3", x.clause(0, 2), 0);
        x.year();
        due("in in year 4", x.clause(0, 2), 1);
    }

    /** What suckers is IN again, whatever it needs, and what forbids. */
    private static void suckersWhateverItNeeds() {
        GraftedLaws x = Desk.grown("tree t;clause p on t says 6 set if 1;clause q on t says 6 set needs p if 1;clause r on t says 6 forbids if 1;suckers 1;bears 0;");
        x.prune(1);
        x.year();
        x.prune(1);
        x.storm();
        due("what it needs is out", x.clause(0, 2), 0);
        x.graft(2);
        due("it can't be grafted", x.may(1, 0), 0);
        x.year();
        due("it suckers all the same", x.clause(1, 2), 1);
    }

    /** A YEAR goes by (first the YEAR, then what suckers, by number). */
    private static void firstTheYear() {
        GraftedLaws x = Desk.grown("tree t;clause p on t says 6 set if 1;clause q on t says 6 set if 1;clause r on t says 7 if 1;suckers 1;");
        x.prune(1);
        x.prune(0);
        x.graft(2);
        due("year", x.year(), 1);
        due("both are in", x.about(6), 3);
        due("what suckers bears from this year on", x.clause(0, 4), 1);
        due("what suckers bears from this year on", x.clause(1, 4), 1);
        due("what is grafted bears, too", x.clause(2, 3), 1);
        due("one act", x.about(7), 4);
        due("undone", x.undo(), true);
        due("both are out again", x.about(6), 1);
        due("both are due again", x.clause(0, 5) + x.clause(1, 5), 2);
        due("redone", x.redo(), true);
        due("both are in again", x.about(6), 3);
        twelveSucker();
    }

    /** Each in its own year, and none other is touched by it. */
    private static void twelveSucker() {
        StringBuilder text = new StringBuilder("tree t;suckers 4;bears 9;");
        for (int clause = 0; clause < 12; clause++) {
            text.append("clause c").append((char) ('a' + clause)).append(" on t says 1 set if 1;");
        }
        GraftedLaws x = Desk.grown(text.toString());
        int[] prunedIn = {2, 0, 1, 2, 0, 1, 2, 0, 1, 2, 0, 1};
        for (int year = 0; year <= 7; year++) {
            for (int clause = 0; clause < 12; clause++) {
                if (prunedIn[clause] == year) {
                    due("prune", x.prune(clause), true);
                }
            }
            for (int clause = 0; clause < 12; clause++) {
                int pruned = prunedIn[clause];
                boolean out = year >= pruned && year < pruned + 4;
                due("in, " + clause + " in " + year, x.clause(clause, 2), out ? 0 : 1);
                due("from, " + clause + " in " + year, x.clause(clause, 4), out ? NONE : year < pruned ? 0 : pruned + 4);
                due("suckers, " + clause + " in " + year, x.clause(clause, 5), out ? pruned + 4 : NONE);
            }
            x.year();
        }
    }

    /** Promise 17: NONE, doing nothing, if it would be above 1,000. (More calls than an object is used for.) */
    private static void lastYear() {
        GraftedLaws x = Desk.grown("tree t;clause p on t says 6 set if 1;suckers 9;");
        for (int year = 1; year <= 1000; year++) {
            due("year " + year, x.year(), year);
        }
        due("above 1,000", x.year(), NONE);
        due("the year", x.about(4), 1000);
        due("a year is taken back", x.undo(), true);
        due("the year", x.about(4), 999);
        due("1,000 again", x.year(), 1000);
        x.undo();
        x.redo();
        x.prune(0);
        x.undo();
        due("above 1,000", x.year(), NONE);
        due("no act: what was taken back can be redone", x.about(8), 1);
        due("redo", x.redo(), true);
        due("it would sucker behind the last year", x.clause(0, 5), 1009);
    }

    /** The SEED becomes its 137-fold and 71 more, modulo 1,000. */
    private static void seedOfAStorm() {
        int[] seeds = {0, 1, 6, 7, 8, 499, 500, 998, 999};
        int[] wants = {71, 208, 893, 30, 167, 434, 571, 797, 934};
        for (int i = 0; i < seeds.length; i++) {
            GraftedLaws x = Desk.grown("seed " + seeds[i] + ";");
            due("a storm of none", x.storm(), NONE);
            due("behind " + seeds[i], x.about(5), wants[i]);
        }
        GraftedLaws x = new GraftedLaws();
        int seed = 0;
        for (int n = 0; n < 100; n++) {
            x.storm();
            seed = (seed * 137 + 71) % 1000;
            due("storm " + n, x.about(5), seed);
        }
    }

    /** Of those that are IN that whose place by number (from 0) is its rest by how many there are is OUT. */
    private static void placeOfAStorm() {
        for (int seed = 0; seed < 24; seed++) {
            StringBuilder text = new StringBuilder("tree t;tree u;seed " + seed + ";bears 9;");
            for (int clause = 0; clause < 12; clause++) {
                String marks = clause % 4 == 3 ? "" : "set ";
                String bars = clause > 0 ? "bars c" + (char) ('a' + clause - 1) + " " : "";
                text.append("clause c").append((char) ('a' + clause)).append(clause % 2 == 0 ? " on t" : " on u").append(" says 1 ")
                    .append(marks).append(bars).append("if 1;");
            }
            GraftedLaws x = Desk.grown(text.toString());
            boolean[] in = new boolean[12];
            for (int clause = 0; clause < 12; clause++) {
                in[clause] = clause % 4 != 3;
            }
            if (x.graft(3) != NONE) {
                in[3] = true;
            }
            int now = seed;
            for (int left = 10; left > 0; left--) {
                now = (now * 137 + 71) % 1000;
                int want = memberAt(in, now % left);
                due("storm of " + left + ", seed " + seed, x.storm(), want);
                in[want] = false;
                due("it is out", x.clause(want, 2), 0);
                due("it bears no more", x.clause(want, 4), NONE);
                due("how many are in", x.about(6), left - 1);
            }
            due("none is left", x.storm(), NONE);
        }
    }

    private static int memberAt(boolean[] in, int place) {
        int ahead = 0;
        for (int clause = 0; clause < in.length; clause++) {
            if (in[clause] && ahead++ == place) {
                return clause;
            }
        }
        return NONE;
    }

    /** (None, if none is IN.) Promise 18: NONE if none is. (An ACT.) */
    private static void stormOfNone() {
        GraftedLaws x = Desk.grown("tree t;clause p on t says 6 if 1;seed 3;");
        due("storm", x.storm(), NONE);
        due("the seed goes on", x.about(5), 482);
        due("an act", x.about(7), 1);
        due("undo", x.undo(), true);
        due("the seed as it was", x.about(5), 3);
        due("redo", x.redo(), true);
        due("the seed", x.about(5), 482);
        x.undo();
        x.storm();
        due("an act: nothing can be redone", x.about(8), 0);
    }

    /** (It does not sucker.) */
    private static void stormsDoNotSucker() {
        GraftedLaws x = Desk.grown("tree t;clause p on t says 6 set if 1;suckers 2;bears 0;");
        due("storm", x.storm(), 0);
        due("not due", x.clause(0, 5), NONE);
        years(x, 12);
        due("out for good", x.clause(0, 2), 0);
        x.graft(0);
        x.prune(0);
        x.graft(0);
        due("due by a pruning", x.clause(0, 5), 14);
        due("storm", x.storm(), 0);
        due("due no more", x.clause(0, 5), NONE);
        years(x, 3);
        due("out", x.clause(0, 2), 0);
    }

    /** UNDO takes back the latest ACT that was not, REDO does that again which was taken back last. */
    private static void undoAndRedo() {
        GraftedLaws x = Desk.grown("tree t;clause p on t says 6 set if 1;clause q on t says 7 if 1;seed 2;suckers 3;bears 2;");
        due("nothing to undo", x.undo(), false);
        due("nothing to redo", x.redo(), false);
        x.graft(1);
        x.prune(0);
        x.year();
        x.storm();
        int[][] seasons = {{0, 2, 0, NONE, NONE, NONE}, {0, 2, 0, NONE, 2, NONE}, {0, 2, NONE, 3, 2, NONE}, {1, 2, NONE, 3, 2, NONE},
            {1, 345, NONE, 3, NONE, NONE}};
        for (int round = 0; round < 3; round++) {
            for (int n = 4; n > 0; n--) {
                season(x, seasons[n]);
                due("can be undone", x.about(7), n);
                due("can be redone", x.about(8), 4 - n);
                due("undo", x.undo(), true);
            }
            season(x, seasons[0]);
            due("nothing to undo", x.undo(), false);
            season(x, seasons[0]);
            due("all can be redone", x.about(8), 4);
            for (int n = 1; n <= 4; n++) {
                due("redo", x.redo(), true);
                season(x, seasons[n]);
            }
            due("nothing to redo", x.redo(), false);
            season(x, seasons[4]);
        }
    }

    private static void season(GraftedLaws x, int[] wants) {
        int[] has = {x.about(4), x.about(5), x.clause(0, 4), x.clause(0, 5), x.clause(1, 4), x.clause(1, 5)};
        for (int i = 0; i < wants.length; i++) {
            due("season, " + i, has[i], wants[i]);
        }
    }

    /** (Till another ACT.) */
    private static void tillAnotherAct() {
        Whole.Run[] acts = {x -> x.graft(1), x -> x.prune(0), x -> x.year(), x -> x.storm()};
        for (Whole.Run act : acts) {
            GraftedLaws x = Desk.grown("tree t;clause p on t says 6 set if 1;clause q on t says 7 if 1;");
            years(x, 3);
            x.undo();
            x.undo();
            due("two can be redone", x.about(8), 2);
            act.on(x);
            due("none can be redone", x.about(8), 0);
            due("redo", x.redo(), false);
            due("two can be undone", x.about(7), 2);
        }
        Whole.Run[] none = {x -> x.graft(0), x -> x.prune(1), x -> x.graft(2), x -> x.prune(2), x -> x.image(0), x -> x.back(0),
            x -> x.wish(0, 0), x -> x.hush(), x -> x.judge(0, 0, 0), x -> x.later(1), x -> x.fruit(0), x -> x.reach(0, 0),
            x -> x.feed(0, 0, 0, 0, 0), x -> x.end(0), x -> x.parties(0, 3, 0), x -> x.least(0)};
        for (int i = 0; i < none.length; i++) {
            GraftedLaws x = Desk.grown("tree t;clause p on t says 6 set if 1;clause q on t says 7 if 1;");
            years(x, 3);
            x.undo();
            x.undo();
            if (i != 5) {
                none[i].on(x);
            } else {
                due("nothing in the box", x.back(0), NONE);
            }
            due("no act " + i, x.about(7), 1);
            due("two can be redone " + i, x.about(8), 2);
            due("redo", x.redo(), true);
            due("the year", x.about(4), 2);
        }
    }

    /** 40 at most are kept, the oldest go. */
    private static void fortyAreKept() {
        for (int acts = 39; acts <= 85; acts++) {
            GraftedLaws x = Desk.grown("");
            years(x, acts);
            int kept = Math.min(acts, 40);
            due("kept of " + acts, x.about(7), kept);
            for (int n = 0; n < kept; n++) {
                due("undo", x.undo(), true);
            }
            due("no more", x.undo(), false);
            due("the oldest are gone", x.about(4), acts - kept);
            due("can be redone", x.about(8), kept);
            due("can be undone", x.about(7), 0);
        }
        GraftedLaws x = Desk.grown("");
        years(x, 50);
        for (int n = 0; n < 10; n++) {
            x.undo();
        }
        years(x, 9);
        due("behind ten undone and nine more", x.about(7), 39);
        x.year();
        due("one more", x.about(7), 40);
        x.year();
        due("and one more", x.about(7), 40);
        for (int n = 0; n < 40; n++) {
            x.undo();
        }
        due("the year", x.about(4), 11);
        due("no more", x.undo(), false);
    }

    private static void fortyAreRedone() {
        GraftedLaws x = Desk.grown("");
        years(x, 41);
        for (int n = 0; n < 40; n++) {
            x.undo();
        }
        due("the year", x.about(4), 1);
        for (int n = 0; n < 40; n++) {
            due("redo", x.redo(), true);
            due("the year", x.about(4), 2 + n);
        }
        due("no more", x.redo(), false);
        due("forty can be undone again", x.about(7), 40);
        due("none can be redone", x.about(8), 0);
    }

    /** Promise 14: NONE if one can't be. */
    private static void mayCantBe() {
        GraftedLaws x = Desk.grown("tree t;clause p on t says 6 set if 1;clause q on t says 6 if 1;");
        int[][] wants = {{0, 1}, {1, 0}};
        for (int what = 0; what <= 1; what++) {
            due("may(0, " + what + ")", x.may(0, what), wants[0][what]);
            due("may(1, " + what + ")", x.may(1, what), wants[1][what]);
            due("may(2, " + what + ")", x.may(2, what), NONE);
            for (int far : FAR) {
                due("may(" + far + ", " + what + ")", x.may(far, what), NONE);
            }
        }
        due("may(0, 2)", x.may(0, 2), NONE);
        for (int far : FAR) {
            due("may(0, " + far + ")", x.may(0, far), NONE);
        }
        due("nothing was done", x.about(7), 0);
    }

    /** Promise 15: NONE, doing nothing, if it can't be. */
    private static void graftCantBe() {
        GraftedLaws x = Desk.grown("tree t;clause p on t says 6 if 1;clause q on t says 6 if 1;bears 0;");
        due("none such", x.graft(2), NONE);
        for (int far : FAR) {
            due("none such", x.graft(far), NONE);
        }
        due("nothing was done", x.about(6) + x.about(7), 0);
        due("the last one", x.graft(1), 0);
        due("the first one", x.graft(0), 0);
        due("two acts", x.about(7), 2);
        due("no clause at all", new GraftedLaws().graft(0), NONE);
    }

    /** Promise 16: false, doing nothing, if it can't be. */
    private static void pruneCantBe() {
        GraftedLaws x = Desk.grown("tree t;clause p on t says 6 set if 1;clause q on t says 6 set if 1;");
        due("none such", x.prune(2), false);
        for (int far : FAR) {
            due("none such", x.prune(far), false);
        }
        due("nothing was done", x.about(6) * 10 + x.about(7), 20);
        due("the last one", x.prune(1), true);
        due("the first one", x.prune(0), true);
        due("two acts", x.about(7), 2);
        due("no clause at all", new GraftedLaws().prune(0), false);
    }

    /** Promises 40 and 41: a BOX 0 .. 2; NONE if there is none such; NONE, doing nothing, if nothing was. */
    private static void boxes() {
        GraftedLaws x = Desk.grown("tree t;clause p on t says 6 set if 1;seed 1;");
        for (int box = 0; box < 3; box++) {
            due("nothing is kept in " + box, x.back(box), NONE);
        }
        for (int box = 0; box < 3; box++) {
            due("kept in " + box, x.image(box), box);
            x.year();
        }
        due("no box", x.image(3), NONE);
        due("no box", x.back(3), NONE);
        for (int far : FAR) {
            due("no box", x.image(far), NONE);
            due("no box", x.back(far), NONE);
        }
        due("the acts are kept", x.about(7), 3);
        due("the year", x.about(4), 3);
        for (int box = 2; box >= 0; box--) {
            due("back from " + box, x.back(box), box);
            due("the year", x.about(4), box);
        }
        due("kept over again", x.back(2), 2);
        x.prune(0);
        due("image", x.image(0), 2);
        due("another one stays", x.back(1), 1);
        due("it is in there", x.clause(0, 2), 1);
        due("back", x.back(0), 2);
        due("it is out there", x.clause(0, 2), 0);
        due("a box is not spent", x.back(0), 2);
        Desk.feed(x, "tree t;");
        x.orchard();
        for (int box = 0; box < 3; box++) {
            due("empty behind another orchard", x.back(box), NONE);
        }
    }

    /** All is as it was kept (no ACTS are kept then). */
    private static void backKeepsNoActs() {
        GraftedLaws x = Desk.grown("tree t;clause p on t says 6 set if 1;clause q on t says 7 if 1;clause r on t says 8 set if 1;seed 2;suckers 3;bears 2;");
        x.graft(1);
        x.prune(0);
        x.year();
        due("image", x.image(2), 1);
        due("no act", x.about(7), 3);
        x.undo();
        due("redo behind an image", x.redo(), true);
        x.storm();
        years(x, 3);
        x.undo();
        due("back", x.back(2), 1);
        due("none can be undone", x.about(7), 0);
        due("none can be redone", x.about(8), 0);
        due("undo", x.undo(), false);
        due("redo", x.redo(), false);
        season(x, new int[] {1, 2, NONE, 3, 2, NONE});
        due("r is in", x.clause(2, 4), 0);
        years(x, 2);
        season(x, new int[] {3, 2, 3, NONE, 2, NONE});
        due("two can be undone", x.about(7), 2);
        due("undo", x.undo() && x.undo(), true);
        season(x, new int[] {1, 2, NONE, 3, 2, NONE});
        due("no further", x.undo(), false);
    }
}
