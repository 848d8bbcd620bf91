import java.util.ArrayList;
import java.util.List;

/**
 * All that an object holds, as far as calls can tell it: what it answers now, then what comes of undoing and redoing
 * all acts, of all boxes and of the tape. The object is spent behind it; for a small orchard it is under 512 calls.
 */
final class Whole {
    /** What is done to an object. */
    interface Run {
        void on(GraftedLaws x);
    }

    private final GraftedLaws laws;
    private final boolean withLying;
    private final List<String> told = new ArrayList<>();

    private Whole(GraftedLaws laws, boolean withLying) {
        this.laws = laws;
        this.withLying = withLying;
    }

    /** Behind both runs an object is as it is behind the first alone. */
    static void stays(Desk desk, String name, Run first, Run second) {
        compare(desk, name, first, second, true);
    }

    /** The same, but for what lies there: nothing does. */
    static void staysButLying(Desk desk, String name, Run first, Run second) {
        GraftedLaws x = new GraftedLaws();
        first.on(x);
        desk.due(name + ": something lay there", x.about(14) > 0, true);
        second.on(x);
        desk.lie(name, x);
        compare(desk, name, first, second, false);
    }

    private static void compare(Desk desk, String name, Run first, Run second, boolean withLying) {
        GraftedLaws x = new GraftedLaws();
        first.on(x);
        second.on(x);
        GraftedLaws y = new GraftedLaws();
        first.on(y);
        List<String> has = new Whole(x, withLying).tell();
        List<String> wants = new Whole(y, withLying).tell();
        desk.due(name + ": how much is told", has.size(), wants.size());
        for (int i = 0; i < Math.min(has.size(), wants.size()); i++) {
            String both = has.get(i) + " and not " + wants.get(i);
            desk.due(name + ": " + both, has.get(i).equals(wants.get(i)), true);
        }
    }

    private void note(String call, long answer) {
        told.add(call + " is " + answer);
    }

    private List<String> tell() {
        present();
        laws();
        wishesAndJudgements();
        acts();
        boxes();
        tape();
        return told;
    }

    private void about() {
        for (int what = 0; what <= 15; what++) {
            if (what != 14 || withLying) {
                note("about(" + what + ")", laws.about(what));
            }
        }
    }

    private void present() {
        about();
        for (int i = 0; withLying && i < laws.about(14); i++) {
            note("lies(" + i + ")", laws.lies(i));
        }
        note("fault(0)", laws.fault(0));
        note("fault(1)", laws.fault(1));
        season();
    }

    private void season() {
        for (int what = 4; what <= 8; what++) {
            note("about(" + what + ")", laws.about(what));
        }
        for (int clause = 0; clause < laws.about(3); clause++) {
            for (int what = 2; what <= 5; what++) {
                note("clause(" + clause + ", " + what + ")", laws.clause(clause, what));
            }
        }
    }

    private void laws() {
        for (int clause = 0; clause < laws.about(3); clause++) {
            note("clause(" + clause + ", 0)", laws.clause(clause, 0));
            note("clause(" + clause + ", 1)", laws.clause(clause, 1));
            note("wide(" + clause + ")", laws.wide(clause));
            note("may(" + clause + ", 0)", laws.may(clause, 0));
            note("may(" + clause + ", 1)", laws.may(clause, 1));
            for (int other = 0; other < clause; other++) {
                note("over(" + clause + ", " + other + ")", laws.over(clause, other));
            }
        }
        for (int tree = 0; tree < laws.about(2); tree++) {
            note("many(" + tree + ", 0)", laws.many(tree, 0));
            note("gains(" + tree + ")", laws.gains(tree));
            note("pith(" + tree + ")", laws.pith(tree));
        }
    }

    private void wishesAndJudgements() {
        for (int tree = 0; tree < laws.about(2); tree++) {
            note("least(" + tree + ")", laws.least(tree));
            for (int known = laws.about(11) - 1; known <= laws.about(11); known++) {
                note("can(" + tree + ", 0, " + known + ")", laws.can(tree, 0, known));
                note("can(" + tree + ", 1, " + known + ")", laws.can(tree, 1, known));
                note("can(" + tree + ", 2, " + known + ")", laws.can(tree, 2, known));
            }
        }
    }

    private void acts() {
        for (int n = laws.about(8); n > 0; n--) {
            note("redo", laws.redo() ? 1 : 0);
            season();
        }
        for (int n = laws.about(7); n > 0; n--) {
            note("undo", laws.undo() ? 1 : 0);
            season();
        }
    }

    private void boxes() {
        for (int box = 0; box < 3; box++) {
            note("back(" + box + ")", laws.back(box));
            season();
        }
    }

    /** The bytes themselves can only be told by what is read from them. */
    private void tape() {
        note("orchard()", laws.orchard());
        note("fault(0)", laws.fault(0));
        note("fault(1)", laws.fault(1));
        about();
    }
}
