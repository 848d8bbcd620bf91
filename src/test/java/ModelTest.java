import java.nio.charset.StandardCharsets;
import java.util.Random;

/** Runs of calls by chance, always the same ones, whose answers are held against those of the Model. */
public final class ModelTest {
    private static final int CALLS = 500;
    private final Desk desk;
    private final Random chance;
    private GraftedLaws laws;
    private Model model;
    private int calls;
    private String told = "";
    /** By this set what is wished and judged follows, most times, so that there is something to find. */
    private int goal;

    private ModelTest(Desk desk, long seed) {
        this.desk = desk;
        this.chance = new Random(seed);
    }

    public static void main(String[] args) {
        Desk desk = new Desk("ModelTest");
        int runs = args.length > 1 ? Integer.parseInt(args[1]) : 260;
        int from = args.length > 2 ? Integer.parseInt(args[2]) : 0;
        for (int seed = from; seed < from + runs && desk.wrongAnswers() < 20; seed++) {
            new ModelTest(desk, seed).run(seed);
        }
        desk.close();
    }

    private void run(int seed) {
        laws = new GraftedLaws();
        model = new Model();
        calls = 0;
        if (seed % 4 == 0) {
            while (calls < CALLS - 90) {
                tell(true, 4, 12);
            }
            return;
        }
        while (calls < CALLS - 90) {
            tell(chance.nextInt(10) == 0, seed % 4 == 3 ? 4 : 3, seed % 4 == 3 ? 12 : 8);
            int most = 20 + chance.nextInt(150);
            for (int n = 0; n < most && calls < CALLS; n++) {
                call();
            }
        }
    }

    private void due(String call, long got, long want) {
        calls++;
        desk.due(call + " on " + told, got, want);
    }

    private void due(String call, boolean got, boolean want) {
        due(call, got ? 1 : 0, want ? 1 : 0);
    }

    private void tell(boolean spoil, int traits, int clauses) {
        Texts texts = new Texts(chance, spoil && chance.nextBoolean());
        String text = texts.next(traits, clauses);
        if (spoil && chance.nextInt(3) > 0) {
            text = texts.spoilt(text);
        }
        text = text.substring(0, Math.min(1600, text.length()));
        byte[] bytes = text.getBytes(StandardCharsets.ISO_8859_1);
        told = text;
        for (int i = 0; i < bytes.length; i += 20) {
            int a = Desk.word(bytes, i);
            int b = Desk.word(bytes, i + 4);
            int c = Desk.word(bytes, i + 8);
            int d = Desk.word(bytes, i + 12);
            int e = Desk.word(bytes, i + 16);
            due("feed", laws.feed(a, b, c, d, e), model.feed(a, b, c, d, e));
        }
        due("end", laws.end(bytes.length), model.end(bytes.length));
        due("orchard", laws.orchard(), model.orchard());
        goal = chance.nextInt(4096);
        due("fault(0)", laws.fault(0), model.fault(0));
        due("fault(1)", laws.fault(1), model.fault(1));
    }

    private int tree() {
        return chance.nextInt(12) == 0 ? chance.nextInt(6) - 2 : chance.nextInt(Math.max(1, model.about(2)));
    }

    private int kase() {
        return chance.nextInt(12) == 0 ? odd() : chance.nextInt(model.about(1));
    }

    private int clause() {
        return chance.nextInt(12) == 0 ? odd() : chance.nextInt(Math.max(1, model.about(3)));
    }

    private int odd() {
        int[] odd = {-1, -2, Integer.MIN_VALUE, Integer.MAX_VALUE, 256, 255, 12, 13, 4, 3};
        return odd[chance.nextInt(odd.length)];
    }

    private int what(int most) {
        return chance.nextInt(12) == 0 ? odd() : chance.nextInt(most + 1);
    }

    private int verdict(int tree, int kase) {
        int sort = chance.nextInt(6);
        if (sort == 0) {
            return chance.nextInt(110) - 5;
        }
        if (sort == 1 && model.about(3) > 0) {
            return Math.max(-2, model.clause(chance.nextInt(model.about(3)), 1));
        }
        if (sort < 4 && tree >= 0 && kase >= 0 && tree < model.about(2) && kase < model.about(1)) {
            return model.followed(tree, goal, kase);
        }
        return Math.max(-2, model.follows(tree, kase));
    }

    private void call() {
        int t = tree();
        int k = kase();
        int c = clause();
        int w;
        switch (chance.nextInt(44)) {
            case 0: w = what(3); due("trait(" + k + "," + w + ")", laws.trait(k, w), model.trait(k, w)); break;
            case 1: w = what(5); due("clause(" + c + "," + w + ")", laws.clause(c, w), model.clause(c, w)); break;
            case 2: due("applies(" + c + "," + k + ")", laws.applies(c, k), model.applies(c, k)); break;
            case 3: w = clause(); due("over(" + c + "," + w + ")", laws.over(c, w), model.over(c, w)); break;
            case 4: due("wide(" + c + ")", laws.wide(c), model.wide(c)); break;
            case 5: due("follows(" + t + "," + k + ")", laws.follows(t, k), model.follows(t, k)); break;
            case 6: w = what(2); due("many(" + t + "," + w + ")", laws.many(t, w), model.many(t, w)); break;
            case 7: w = what(2); due("first(" + t + "," + w + ")", laws.first(t, w), model.first(t, w)); break;
            case 8: w = what(1); due("may(" + c + "," + w + ")", laws.may(c, w), model.may(c, w)); break;
            case 9: case 10: case 11: due("graft(" + c + ")", laws.graft(c), model.graft(c)); break;
            case 12: case 13: due("prune(" + c + ")", laws.prune(c), model.prune(c)); break;
            case 14: case 15: due("year()", laws.year(), model.year()); break;
            case 16: due("storm()", laws.storm(), model.storm()); break;
            case 17: case 18: due("undo()", laws.undo(), model.undo()); break;
            case 19: due("redo()", laws.redo(), model.redo()); break;
            case 20: due("fruit(" + c + ")", laws.fruit(c), model.fruit(c)); lie(); break;
            case 21: case 22: w = verdict(t, k); due("wish(" + k + "," + w + ")", laws.wish(k, w), model.wish(k, w)); break;
            case 23: if (chance.nextInt(3) == 0) { due("hush()", laws.hush(), model.hush()); } break;
            case 24: due("least(" + t + ")", laws.least(t), model.least(t)); break;
            case 25: due("pith(" + t + ")", laws.pith(t), model.pith(t)); break;
            case 26: due("aim(" + k + ")", laws.aim(k), model.aim(k)); break;
            case 27: w = what(2); due("holes(" + t + "," + w + ")", laws.holes(t, w), model.holes(t, w)); break;
            case 28: due("gains(" + t + ")", laws.gains(t), model.gains(t)); break;
            case 29: due("mend(" + t + ")", laws.mend(t), model.mend(t)); break;
            case 30: due("evade(" + t + "," + k + ")", laws.evade(t, k), model.evade(t, k)); break;
            case 31: w = tree(); due("unlike(" + t + "," + w + ")", laws.unlike(t, w), model.unlike(t, w)); lie(); break;
            case 32: case 33: reach(t); break;
            case 34: parties(t); break;
            case 35: case 36: w = verdict(t, k);
                due("judge(" + t + "," + k + "," + w + ")", laws.judge(t, k, w), model.judge(t, k, w)); break;
            case 37: w = what(Math.max(0, model.about(10))); due("untell(" + w + ")", laws.untell(w), model.untell(w)); break;
            case 38: w = chance.nextInt(8) == 0 ? chance.nextInt(1100) - 50 : chance.nextInt(3);
                due("later(" + w + ")", laws.later(w), model.later(w)); break;
            case 39: case 40: sets(t); break;
            case 41: w = what(2); due("image(" + w + ")", laws.image(w), model.image(w)); break;
            case 42: w = what(2); due("back(" + w + ")", laws.back(w), model.back(w)); break;
            default: w = chance.nextInt(19) - 1; due("about(" + w + ")", laws.about(w), model.about(w)); break;
        }
        w = chance.nextInt(16);
        due("about(" + w + ")", laws.about(w), model.about(w));
    }

    private void lie() {
        for (int n = 0; n < 2; n++) {
            int i = chance.nextInt(Math.max(1, model.about(14)) + 1) - (chance.nextInt(9) == 0 ? 1 : 0);
            due("lies(" + i + ")", laws.lies(i), model.lies(i));
        }
    }

    private void reach(int t) {
        int members = 0;
        for (int c = 0; c < model.about(3); c++) {
            members |= model.clause(c, 0) == t ? 1 << c : 0;
        }
        int set = members & chance.nextInt();
        if (chance.nextInt(12) == 0) {
            set = chance.nextBoolean() ? chance.nextInt(8192) : chance.nextInt();
        }
        due("reach(" + t + "," + set + ")", laws.reach(t, set), model.reach(t, set));
        for (int i = 0; i < model.about(14); i++) {
            desk.due("lies(" + i + ") behind reach(" + t + "," + set + ") on " + told, laws.lies(i), model.lies(i));
        }
    }

    private void parties(int t) {
        int n = chance.nextInt(12) == 0 ? odd() : 1 + chance.nextInt(3);
        int w = what(1);
        due("parties(" + t + "," + n + "," + w + ")", laws.parties(t, n, w), model.parties(t, n, w));
    }

    private void sets(int t) {
        int k = chance.nextInt(12) == 0 ? odd() : chance.nextInt(model.about(11) + 2);
        int w = what(2);
        due("can(" + t + "," + w + "," + k + ")", laws.can(t, w, k), model.can(t, w, k));
        due("ask(" + t + "," + w + "," + k + ")", laws.ask(t, w, k), model.ask(t, w, k));
    }
}
