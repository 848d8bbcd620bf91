import java.nio.charset.StandardCharsets;

/**
 * Refused calls, each with its answer, and with all that it must leave as it was: acts done and taken back, wishes,
 * judgements, boxes, what lies there, the tape. And calls that only ask do nothing at all.
 */
public final class RefusedTest {
    private static final Desk DESK = new Desk("RefusedTest");
    private static final int NONE = -1;
    private static final int[] FAR = {Integer.MIN_VALUE, -256, -4, 256, 4096, Integer.MAX_VALUE};
    private static final String LAWS = "trait a 2;trait b 2;tree t;tree u narrow;clause p on t says 3 set if a;clause q on t says 4 needs p over p if b;"
        + "clause r on u says 5 set forbids if 1;clause s on u says 6 set bars p if a=b;aim a*9-b;bears 2;suckers 2;seed 7;";

    /** What a call answers; booleans are 1 or 0. */
    private interface Call {
        long on(GraftedLaws x);
    }

    public static void main(String[] args) {
        feeds();
        ends();
        faults();
        acts();
        wishesAndJudgements();
        times();
        boxes();
        whatLiesThere();
        asking();
        what();
        emptiesAll();
        DESK.close();
    }

    /** All there is: two acts done, two taken back, wishes, judgements, two boxes, something that lies there, a tape. */
    private static void busy(GraftedLaws x) {
        Desk.feed(x, LAWS);
        x.orchard();
        x.image(2);
        x.graft(1);
        x.year();
        x.image(0);
        x.prune(3);
        x.storm();
        x.undo();
        x.undo();
        x.wish(0, 5);
        x.wish(3, -1);
        x.judge(0, 1, 4);
        x.later(4);
        x.judge(1, 0, 5);
        x.untell(0);
        x.later(1);
        x.fruit(0);
        Desk.feed(x, "tree v;tree w");
    }

    private static void refused(String name, Call call, long want) {
        refused(name, RefusedTest::busy, call, want);
    }

    private static void refused(String name, Whole.Run first, Call call, long want) {
        GraftedLaws x = new GraftedLaws();
        first.on(x);
        DESK.due(name, call.on(x), want);
        Whole.stays(DESK, name, first, y -> call.on(y));
    }

    private static void nothingLies(String name, Call call, long want) {
        GraftedLaws x = new GraftedLaws();
        busy(x);
        DESK.due(name, call.on(x), want);
        Whole.staysButLying(DESK, name, RefusedTest::busy, y -> call.on(y));
    }

    private static long bit(boolean b) {
        return b ? 1 : 0;
    }

    private static void put(GraftedLaws x, String text) {
        byte[] bytes = text.getBytes(StandardCharsets.ISO_8859_1);
        x.feed(Desk.word(bytes, 0), Desk.word(bytes, 4), Desk.word(bytes, 8), Desk.word(bytes, 12), Desk.word(bytes, 16));
    }

    /** Promise 2: twenty bytes, of each number the highest first; NONE, and nothing comes, if there would be more than 1,600. */
    private static void feeds() {
        for (int had = 1579; had <= 1600; had++) {
            int length = had;
            Whole.Run first = x -> {
                busy(x);
                x.end(0);
                Desk.feed(x, "tree v;" + " ".repeat(length - 7));
            };
            if (had > 1580) {
                refused("feed behind " + had, first, x -> x.feed(0x74726565, 0x20773b20, 0x20202020, 0x20202020, 0x20202020), NONE);
            } else {
                GraftedLaws x = new GraftedLaws();
                first.on(x);
                DESK.due("bytes", x.about(12), had);
                DESK.due("feed behind " + had, x.feed(0x74726565, 0x20773b20, 0x20202020, 0x20202020, 0x20202020), had + 20);
                DESK.due("they are read", x.orchard(), 1);
                DESK.due("both trees", x.about(2), 2);
            }
        }
        GraftedLaws x = new GraftedLaws();
        put(x, "trait abc 3;tree ab;");
        DESK.due("twenty", x.about(12), 20);
        put(x, "clause k on ab says ");
        DESK.due("forty", x.about(12), 40);
        put(x, "77 set if abc=2;    ");
        DESK.due("each byte is where it should be", x.orchard(), 3);
        DESK.due("its verdict", x.follows(0, 2), 77);
        DESK.due("none", x.follows(0, 1), NONE);
        for (int place = 0; place < 20; place++) {
            int[] words = new int[5];
            java.util.Arrays.fill(words, 0x20202020);
            words[place / 4] ^= (0x20 ^ 0xA4) << 24 - place % 4 * 8;
            x.feed(words[0], words[1], words[2], words[3], words[4]);
            DESK.due("a byte above 127", x.orchard(), NONE);
            DESK.due("no token", x.fault(0), 1);
            DESK.due("its place", x.fault(1), place);
        }
    }

    /** Promise 3: n; NONE, doing nothing, if it has not so many, or n is below 0. */
    private static void ends() {
        GraftedLaws x = new GraftedLaws();
        busy(x);
        int had = x.about(12);
        DESK.due("bytes", had, 13);
        refused("end behind the last", y -> y.end(14), NONE);
        refused("end below 0", y -> y.end(-1), NONE);
        for (int far : FAR) {
            refused("end(" + far + ")", y -> y.end(far), NONE);
        }
        refused("end at the last", y -> y.end(13), 13);
        refused("end of an empty tape", y -> { busy(y); y.end(0); }, y -> y.end(0), 0);
        refused("end of an empty tape", y -> { busy(y); y.end(0); }, y -> y.end(1), NONE);
        DESK.due("end(12)", x.end(12), 12);
        DESK.due("bytes", x.about(12), 12);
        DESK.due("not so many any more", x.end(13), NONE);
        DESK.due("end(7)", x.end(7), 7);
        DESK.due("the first seven are read", x.orchard(), 1);
        DESK.due("one tree", x.about(2), 1);
    }

    /** Promise 4: NONE: a FAULT (the TAPE is empty then, too; all else stays). Promise 5: of the latest orchard(). */
    private static void faults() {
        String[] texts = {"|$", "|oh", "tree t;tree |t;", "trait a |1;", "aim |nobody;", "tree t;tree u;clause p on t says 1 if 1;clause q on u says 1 over |p if 1;",
            "trait z 4;tree z;clause z on z says 99 set if z;aim 77;bears 9;suckers 9;seed 999;|aim 3;"};
        int[] faults = {1, 2, 3, 4, 5, 6, 2};
        for (int i = 0; i < texts.length; i++) {
            int place = texts[i].indexOf('|');
            String text = texts[i].replace("|", "");
            Whole.Run empty = x -> {
                busy(x);
                x.end(0);
                Desk.feed(x, text);
            };
            GraftedLaws x = new GraftedLaws();
            busy(x);
            x.end(0);
            Desk.feed(x, text);
            DESK.due("orchard of " + text, x.orchard(), NONE);
            DESK.due("fault(0) of " + text, x.fault(0), faults[i]);
            DESK.due("fault(1) of " + text, x.fault(1), place);
            DESK.due("the tape", x.about(12), 0);
            Whole.stays(DESK, "a second fault behind " + text, y -> { empty.on(y); y.orchard(); }, y -> { Desk.feed(y, text); y.orchard(); });
            allElseStays(text);
        }
        for (int far : FAR) {
            refused("fault(" + far + ")", x -> x.fault(far), NONE);
        }
        refused("fault(2)", x -> x.fault(2), NONE);
        refused("fault(-1)", x -> x.fault(-1), NONE);
        GraftedLaws x = new GraftedLaws();
        DESK.due("ahead of any", x.fault(0), 0);
        DESK.due("ahead of any", x.fault(1), NONE);
        Desk.feed(x, "tree t;;");
        DESK.due("feeding is no orchard", x.fault(0), 0);
        x.orchard();
        DESK.due("its fault", x.fault(0), 2);
        DESK.due("its place", x.fault(1), 7);
        Desk.feed(x, "tree t;");
        DESK.due("till the next", x.fault(0), 2);
        x.orchard();
        DESK.due("without", x.fault(0), 0);
        DESK.due("without", x.fault(1), NONE);
    }

    /** A text with a fault leaves what one that is not read at all does: the same, but for the fault itself. */
    private static void allElseStays(String text) {
        Whole.Run clean = x -> {
            busy(x);
            x.end(0);
            Desk.feed(x, "$");
            x.orchard();
        };
        Whole.Run faulty = x -> {
            Desk.feed(x, text);
            x.orchard();
            Desk.feed(x, "$");
            x.orchard();
        };
        Whole.stays(DESK, "behind " + text, clean, faulty);
    }

    /** Promises 14 to 20: what can't be is not done, and is no ACT. */
    private static void acts() {
        refused("graft of what is in", x -> x.graft(0), NONE);
        refused("graft of what is in and does not bear", x -> x.graft(1), NONE);
        refused("graft of what is in and forbids", x -> x.graft(2), NONE);
        refused("no clause", x -> x.graft(4), NONE);
        refused("no clause", x -> x.graft(-1), NONE);
        refused("prune of what is barred", x -> bit(x.prune(0)), 0);
        refused("no clause", x -> bit(x.prune(4)), 0);
        refused("no clause", x -> bit(x.prune(-1)), 0);
        for (int far : FAR) {
            refused("graft(" + far + ")", x -> x.graft(far), NONE);
            refused("prune(" + far + ")", x -> bit(x.prune(far)), 0);
        }
        Whole.Run pruned = x -> {
            busy(x);
            x.prune(3);
            x.prune(0);
            x.prune(1);
            x.year();
            x.undo();
        };
        refused("graft of what is forbidden", pruned, x -> x.graft(3), NONE);
        refused("graft of what needs another", pruned, x -> x.graft(1), NONE);
        refused("prune of what is out", pruned, x -> bit(x.prune(0)), 0);
        Whole.Run nothing = x -> Desk.feed(x, "aim 4;");
        refused("undo of none", nothing, x -> bit(x.undo()), 0);
        refused("redo of none", nothing, x -> bit(x.redo()), 0);
        refused("redo of none", x -> { busy(x); x.year(); }, x -> bit(x.redo()), 0);
        refused("undo of none", x -> { busy(x); x.undo(); x.undo(); }, x -> bit(x.undo()), 0);
        Whole.stays(DESK, "undone and redone", RefusedTest::busy, x -> { x.undo(); x.redo(); });
        Whole.stays(DESK, "redone and undone", RefusedTest::busy, x -> { x.redo(); x.redo(); x.undo(); x.undo(); });
        Whole.Run late = x -> {
            busy(x);
            for (int n = 0; n < 999; n++) {
                x.year();
            }
            x.prune(3);
            x.undo();
        };
        refused("a year above 1,000", late, x -> x.year(), NONE);
    }

    /** Promises 22, 35 and 36: NONE, doing nothing. */
    private static void wishesAndJudgements() {
        int[][] odd = {{4, 0}, {-1, 0}, {0, 100}, {0, -3}, {Integer.MAX_VALUE, 0}, {Integer.MIN_VALUE, 0}, {0, Integer.MAX_VALUE}, {0, Integer.MIN_VALUE}};
        for (int[] o : odd) {
            refused("wish(" + o[0] + ", " + o[1] + ")", x -> x.wish(o[0], o[1]), NONE);
            refused("judge(0, " + o[0] + ", " + o[1] + ")", x -> x.judge(0, o[0], o[1]), NONE);
            refused("judge(2, ..)", x -> x.judge(2, 0, 0), NONE);
            refused("judge(-1, ..)", x -> x.judge(-1, 0, 0), NONE);
        }
        Whole.Run full = x -> {
            busy(x);
            for (int n = 2; n < 20; n++) {
                x.wish(0, 5);
            }
            for (int n = 2; n < 30; n++) {
                x.judge(1, 0, 5);
            }
        };
        refused("there are 20", full, x -> x.wish(3, 3), NONE);
        refused("there are 30", full, x -> x.judge(1, 0, 6), NONE);
        refused("untold already", x -> bit(x.untell(0)), 0);
        refused("none such", x -> bit(x.untell(2)), 0);
        refused("none such", x -> bit(x.untell(-1)), 0);
        for (int far : FAR) {
            refused("untell(" + far + ")", x -> bit(x.untell(far)), 0);
        }
        refused("hush of none", x -> { busy(x); x.hush(); }, x -> x.hush(), 0);
    }

    /** Promise 37: NONE, doing nothing, for another number, or if it would be above 100,000. */
    private static void times() {
        refused("by -1", x -> x.later(-1), NONE);
        refused("by 1001", x -> x.later(1001), NONE);
        refused("by 0", x -> x.later(0), 5);
        for (int far : FAR) {
            if (far < 0 || far > 1000) {
                refused("by " + far, x -> x.later(far), NONE);
            }
        }
        Whole.Run late = x -> {
            busy(x);
            for (int n = 0; n < 99; n++) {
                x.later(1000);
            }
            x.later(990);
        };
        refused("to 100,001", late, x -> x.later(6), NONE);
        refused("to 100,995", late, x -> x.later(1000), NONE);
        DESK.due("to 100,000", tillThen(late).later(5), 100000);
    }

    private static GraftedLaws tillThen(Whole.Run run) {
        GraftedLaws x = new GraftedLaws();
        run.on(x);
        return x;
    }

    /** Promises 40 and 41. */
    private static void boxes() {
        refused("nothing was kept", x -> x.back(1), NONE);
        refused("no box", x -> x.back(3), NONE);
        refused("no box", x -> x.back(-1), NONE);
        refused("no box", x -> x.image(3), NONE);
        refused("no box", x -> x.image(-1), NONE);
        for (int far : FAR) {
            refused("back(" + far + ")", x -> x.back(far), NONE);
            refused("image(" + far + ")", x -> x.image(far), NONE);
        }
        refused("the same in a box again", x -> { busy(x); x.image(1); }, x -> x.image(1), 1);
        refused("back again", x -> { busy(x); x.back(0); }, x -> x.back(0), 1);
    }

    /** Promises 21, 31 and 32: behind NONE, -2 nothing lies there; all else stays. */
    private static void whatLiesThere() {
        nothingLies("no clause", x -> x.fruit(4), NONE);
        nothingLies("no clause", x -> x.fruit(-1), NONE);
        nothingLies("no tree", x -> x.unlike(2, 0), NONE);
        nothingLies("no tree", x -> x.unlike(0, 2), NONE);
        nothingLies("no tree", x -> x.unlike(-1, 0), NONE);
        nothingLies("no tree", x -> x.unlike(0, -1), NONE);
        nothingLies("no tree", x -> x.reach(2, 0), -2);
        nothingLies("no tree", x -> x.reach(-1, 0), -2);
        nothingLies("a clause of another tree", x -> x.reach(0, 4), -2);
        nothingLies("no clause", x -> x.reach(0, 16), -2);
        nothingLies("all bits", x -> x.reach(0, -1), -2);
        nothingLies("it can't be", x -> x.reach(0, 0), NONE);
        nothingLies("it is so", x -> x.reach(0, 3), 0);
        nothingLies("with itself", x -> x.unlike(1, 1), 0);
        for (int far : FAR) {
            nothingLies("fruit(" + far + ")", x -> x.fruit(far), NONE);
            nothingLies("unlike(" + far + ", 0)", x -> x.unlike(far, 0), NONE);
            nothingLies("unlike(0, " + far + ")", x -> x.unlike(0, far), NONE);
            nothingLies("reach(" + far + ", 0)", x -> x.reach(far, 0), -2);
        }
        refused("none such", x -> x.lies(x.about(14)), NONE);
        refused("none such", x -> x.lies(-1), NONE);
    }

    /** Part 3: nothing is done; and the other calls that only ask. */
    private static void asking() {
        Whole.stays(DESK, "asked", RefusedTest::busy, x -> {
            for (int i = -1; i <= 4; i++) {
                x.fault(i);
                x.wide(i);
                x.least(i);
                x.pith(i);
                x.aim(i);
                x.gains(i);
                x.mend(i);
                x.lies(i);
                for (int j = -1; j <= 4; j++) {
                    x.trait(i, j);
                    x.clause(i, j);
                    x.applies(i, j);
                    x.over(i, j);
                    x.follows(i, j);
                    x.many(i, j);
                    x.first(i, j);
                    x.may(i, j);
                    x.holes(i, j);
                    x.evade(i, j);
                }
            }
        });
        Whole.stays(DESK, "searched", RefusedTest::busy, x -> {
            for (int i = -1; i <= 2; i++) {
                for (int j = -1; j <= 4; j++) {
                    x.parties(i, j, 0);
                    x.parties(i, j, 1);
                    x.can(i, j, 4);
                    x.ask(i, j, 5);
                }
            }
            for (int i = -1; i <= 16; i++) {
                x.about(i);
            }
        });
        Whole.stays(DESK, "the same lies there again", RefusedTest::busy, x -> {
            x.unlike(0, 1);
            x.reach(0, 1);
            x.fruit(0);
        });
    }

    /** Promise 42: NONE for another what. */
    private static void what() {
        GraftedLaws x = new GraftedLaws();
        busy(x);
        int[] wants = {2, 4, 2, 4, 1, 7, 4, 2, 2, 2, 2, 5, 13, 8, 2, 3};
        for (int what = 0; what <= 15; what++) {
            DESK.due("about(" + what + ")", x.about(what), wants[what]);
        }
        DESK.due("about(16)", x.about(16), NONE);
        DESK.due("about(-1)", x.about(-1), NONE);
        for (int far : FAR) {
            DESK.due("about(" + far + ")", x.about(far), NONE);
        }
    }

    /**
     * Promise 4: all as told, no ACTS are kept, no WISHES, JUDGEMENTS are, nothing lies there, BOXES are empty then: an
     * object that had another orchard is as one that is new, but for the TIME.
     */
    private static void emptiesAll() {
        Whole.Run fresh = x -> {
            x.later(5);
            Desk.feed(x, LAWS);
            x.orchard();
        };
        GraftedLaws x = new GraftedLaws();
        busy(x);
        x.end(0);
        Desk.feed(x, LAWS);
        DESK.due("cases", x.orchard(), 4);
        for (int what = 4; what <= 12; what++) {
            DESK.due("about(" + what + ")", x.about(what), new int[] {0, 7, 3, 0, 0, 0, 0, 5, 0}[what - 4]);
        }
        DESK.due("nothing lies there", x.about(14), 0);
        Whole.stays(DESK, "another orchard ahead", fresh, y -> {
            Desk.feed(y, LAWS);
            y.orchard();
            y.image(0);
            y.image(1);
            y.graft(1);
            y.year();
            y.undo();
            y.wish(0, 1);
            y.judge(0, 0, 1);
            y.fruit(0);
            Desk.feed(y, LAWS);
            y.orchard();
        });
        Whole.stays(DESK, "an empty orchard ahead", fresh, y -> {
            y.orchard();
            Desk.feed(y, LAWS);
            y.orchard();
        });
        behindAGreatOne();
    }

    private static final String GREAT = "trait z 4;trait y 4;trait x 4;trait w 4;tree c narrow;tree b later;tree a narrow;"
        + "clause ca on a says 9 set forbids if 1;clause cb on a says 8 set over ca needs ca bars ca if 1;clause cc on a says 7 set forbids over ca bars cb if 1;"
        + "clause cd on b says 6 set needs ca bars cc if 1;clause ce on b says 5 set over cd needs cd bars ca if 1;clause cf on a says 4 set if 1;"
        + "clause cg on a says 4 set if 1;clause ch on a says 4 set if 1;clause ci on a says 4 set if 1;clause cj on a says 4 set if 1;"
        + "clause ck on a says 4 set if 1;clause cl on a says 4 set if 1;aim 9999;bears 9;suckers 9;seed 999;";
    private static final String SMALL = "trait a 3;tree t;tree u;clause p on t says 3 set if a;clause q on t says 4 set if a>1;clause r on u says 5 if a;clause s on u says 6 if a=0;";
    private static final String BARE = "tree t;clause p on t says 3 set if 1;clause q on t says 3 set if 1;";

    /** Nothing of a great orchard stays: of its cases, clauses, what is over which, needs, bars, forbids, aim and numbers. */
    private static void behindAGreatOne() {
        for (String text : new String[] {SMALL, BARE, LAWS, "", "trait a 4;tree t;", "aim 3;", "tree t;clause p on t says 3 set if 0;"}) {
            Whole.Run fresh = x -> {
                Desk.feed(x, text);
                x.orchard();
            };
            for (int great = 1; great <= 3; great++) {
                int many = great;
                Whole.stays(DESK, many + " great ones ahead of " + text, fresh, x -> {
                    growGreat(x, many);
                    fresh.on(x);
                });
                answersAlike(text, many);
            }
        }
        GraftedLaws x = new GraftedLaws();
        for (int n = 0; n < 25; n++) {
            Desk.feed(x, "tree t;clause p on t says 1 if " + "1+".repeat(29) + n + ";clause q on t says 1 if 0;aim " + "1+".repeat(29) + n + ";");
            DESK.due("orchard " + n, x.orchard(), 1);
            DESK.due("its aim", x.aim(0), 29 + n);
            DESK.due("its units", x.about(13), 61);
            DESK.due("its clauses", x.wide(0) * 10 + x.wide(1), 10);
        }
    }

    /** In the last of three one clause applies to no case, so that others are narrower than it is. */
    private static void growGreat(GraftedLaws x, int many) {
        for (int n = 0; n < many; n++) {
            Desk.feed(x, n < 2 ? GREAT : GREAT.replace("bars cb if 1;", "bars cb if 0;"));
            DESK.due("a great one", x.orchard(), 256);
        }
    }

    /** What the searches answer, on an object that is new and on one that had great orchards. */
    private static void answersAlike(String text, int great) {
        GraftedLaws old = new GraftedLaws();
        growGreat(old, great);
        Desk.feed(old, text);
        old.orchard();
        GraftedLaws fresh = Desk.grown(text);
        for (int i = 0; i < 4; i++) {
            DESK.due("fruit(" + i + ") of " + text, old.fruit(i), fresh.fruit(i));
            DESK.due("wide(" + i + ") of " + text, old.wide(i), fresh.wide(i));
            DESK.due("aim(" + i + ") of " + text, old.aim(i), fresh.aim(i));
            DESK.due("mend(" + i + ") of " + text, old.mend(i), fresh.mend(i));
            DESK.due("graft(" + i + ") of " + text, old.graft(i), fresh.graft(i));
            DESK.due("prune(" + i + ") of " + text, old.prune(i), fresh.prune(i));
            DESK.due("clause(" + i + ", 5) of " + text, old.clause(i, 5), fresh.clause(i, 5));
            for (int what = 0; what <= 2; what++) {
                DESK.due("many(" + i + ", " + what + ") of " + text, old.many(i, what), fresh.many(i, what));
                DESK.due("first(" + i + ", " + what + ") of " + text, old.first(i, what), fresh.first(i, what));
                DESK.due("holes(" + i + ", " + what + ") of " + text, old.holes(i, what), fresh.holes(i, what));
                DESK.due("unlike(" + i + ", " + what + ") of " + text, old.unlike(i, what), fresh.unlike(i, what));
                DESK.due("parties(" + i + ", " + what + ") of " + text, old.parties(i, what, 0), fresh.parties(i, what, 0));
                DESK.due("ask(" + i + ", " + what + ") of " + text, old.ask(i, what, 0), fresh.ask(i, what, 0));
                DESK.due("evade(" + i + ", " + what + ") of " + text, old.evade(i, what), fresh.evade(i, what));
                DESK.due("reach(" + i + ", " + what + ") of " + text, old.reach(i, what), fresh.reach(i, what));
            }
        }
    }
}
