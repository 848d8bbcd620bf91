import com.sun.management.ThreadMXBean;
import java.lang.management.ManagementFactory;
import java.util.Random;

/** What calls make is counted: all of a run live in one room. And odd arguments are never answered by an exception. */
public final class RoomTest {
    private static final Desk DESK = new Desk("RoomTest");
    private static final ThreadMXBean THREADS = (ThreadMXBean) ManagementFactory.getThreadMXBean();
    private static final int[] ODD = {Integer.MIN_VALUE, Integer.MAX_VALUE, -1, -2, -3, 0, 1, 2, 3, 4, 11, 12, 13, 31, 32,
        40, 63, 255, 256, 4095, 4096, 1600, 65535, 65536};

    public static void main(String[] args) {
        warm();
        objects();
        calls();
        longWay();
        oddArguments();
        deep();
        DESK.close();
    }

    /** Bytes, as the machine counts them: no element or field takes less than one. */
    private static long madeBytes() {
        return THREADS.getThreadAllocatedBytes(Thread.currentThread().getId());
    }

    private static void warm() {
        for (int n = 0; n < 50; n++) {
            GraftedLaws x = big();
            everything(x, n);
        }
        madeBytes();
    }

    /** 512 objects and nothing else fit: 7.3 million elements by 512 are some 14,000 each. */
    private static void objects() {
        long before = madeBytes();
        GraftedLaws last = null;
        for (int n = 0; n < 512; n++) {
            last = new GraftedLaws();
        }
        long each = (madeBytes() - before) / 512;
        DESK.due("an object of " + each + " bytes is small", each < 28000, true);
        DESK.due("the last", last.about(1), 1);
    }

    private static GraftedLaws big() {
        return Desk.grown("trait a 4;trait b 4;trait c 4;trait d 4;tree t narrow;clause ca on t says 1 if a=b;"
            + "clause cb on t says 2 set if b=c;clause cc on t says 3 if c=d;clause cd on t says 4 if a<b;clause ce on t says 5 set if b<c;"
            + "clause cf on t says 6 if c<d;clause cg on t says 7 if a>d;clause ch on t says 8 set if a+b+c+d>6;clause ci on t says 9 if a*b>c;"
            + "clause cj on t says 10 if a=0 or b=1;clause ck on t says 11 if d%2;clause cl on t says 12 set if 1;aim a*b+c;suckers 1;");
    }

    private static void everything(GraftedLaws x, int n) {
        x.graft(n % 12);
        x.year();
        x.prune(n % 12);
        x.storm();
        x.undo();
        x.redo();
        x.fruit(n % 12);
        x.unlike(0, 0);
        x.wish(n, 3);
        x.least(0);
        x.pith(0);
        x.mend(0);
        x.evade(0, n);
        x.reach(0, n * 37 & 4095);
        x.parties(0, 3, 0);
        x.judge(0, n, n % 12);
        x.can(0, 0, 5);
        x.ask(0, 0, 5);
        x.image(n % 3);
        x.back(n % 2);
        x.hush();
        x.many(0, 2);
        x.holes(0, 0);
        x.gains(0);
        x.wide(3);
    }

    /** Once its long rows are made, no call makes anything. */
    private static void calls() {
        GraftedLaws x = big();
        everything(x, 0);
        long before = madeBytes();
        for (int n = 0; n < 100; n++) {
            everything(x, n);
            x.feed(0x20202020, 0x20202020, 0x20202020, 0x20202020, 0x20202020);
            if (n % 10 == 9) {
                x.end(2);
            }
        }
        long made = madeBytes() - before;
        DESK.due("2,700 calls made " + made + " bytes", made < 5000, true);
        before = madeBytes();
        for (int n = 0; n < 512; n++) {
            x.orchard();
        }
        made = madeBytes() - before;
        DESK.due("512 orchards made " + made + " bytes", made < 5000, true);
    }

    /** More acts than the forty numbers that lie there otherwise; each of them can be done in earnest. */
    private static void longWay() {
        GraftedLaws x = Desk.grown("trait a 4;trait b 4;trait c 4;tree t;clause ca on t says 2 set forbids if 1;clause cb on t says 1 set bars ca if 1;"
            + "clause cc on t says 1 set bars cb if 1;clause cd on t says 1 set bars cc if 1;clause ce on t says 1 set bars cb bars cc bars cd if 1;"
            + "clause cf on t says 1 set needs ce bars ce if 1;clause cg on t says 1 set needs ce needs cf bars cb bars ce if 1;"
            + "clause ch on t says 1 set needs cb needs cg bars cd bars cf if 1;clause ci on t says 1 set needs cc needs ch bars cd if 1;"
            + "clause cj on t says 1 set needs cd needs cg needs ci bars cc if 1;clause ck on t says 1 set needs cc needs cg needs cj bars cb if 1;"
            + "clause cl on t says 1 set needs cb needs ck bars ca if 1;");
        DESK.due("a long way", x.reach(0, 3665), 86);
        DESK.due("behind it", x.fruit(0), 64);
        DESK.due("forty cases lie there, as ever", x.about(14), 40);
        DESK.due("the last of them", x.lies(39), 39);
        DESK.due("no other", x.lies(40), GraftedLaws.NONE);
        DESK.due("a long way again", x.reach(0, 3665), 86);
        int set = 4095;
        for (int i = 0; i < 86; i++) {
            int clause = x.lies(i);
            boolean in = (set >> clause & 1) != 0;
            DESK.due("act " + i, in ? x.prune(clause) : x.graft(clause) != GraftedLaws.NONE, true);
            set ^= 1 << clause;
        }
        DESK.due("what is in behind it", set, 3665);
        DESK.due("it is so", x.reach(0, 3665), 0);
        DESK.due("nothing lies there", x.about(14), 0);
    }

    private static void oddArguments() {
        String[] texts = {"", "tree t;", "trait a 2;tree t;clause p on t says 1 set if a;", null};
        for (String text : texts) {
            GraftedLaws x = text == null ? big() : Desk.grown(text);
            for (int a : ODD) {
                for (int b : ODD) {
                    two(x, a, b);
                }
            }
        }
        DESK.due("no exception", 0, 0);
        Random chance = new Random(7);
        for (int n = 0; n < 4000; n++) {
            GraftedLaws x = new GraftedLaws();
            for (int i = chance.nextInt(12); i >= 0; i--) {
                x.feed(noise(chance), noise(chance), noise(chance), noise(chance), noise(chance));
            }
            x.end(chance.nextInt(200));
            x.orchard();
            two(x, 0, 0);
        }
        DESK.due("no exception by noise", 0, 0);
    }

    private static int noise(Random chance) {
        String signs = "abt123;()<>=+-*/% \n$";
        int word = 0;
        for (int i = 0; i < 4; i++) {
            word = word << 8 | signs.charAt(chance.nextInt(signs.length()));
        }
        return word;
    }

    private static void two(GraftedLaws x, int a, int b) {
        x.fault(a);
        x.trait(a, b);
        x.clause(a, b);
        x.applies(a, b);
        x.over(a, b);
        x.wide(a);
        x.follows(a, b);
        x.many(a, b);
        x.first(a, b);
        x.may(a, b);
        x.graft(a);
        x.prune(b);
        x.fruit(a);
        x.wish(a, b);
        x.least(a);
        x.pith(a);
        x.aim(a);
        x.holes(a, b);
        x.gains(a);
        x.mend(a);
        x.evade(a, b);
        x.unlike(a, b);
        x.reach(a, b);
        x.parties(a, b, 0);
        x.parties(0, a, b);
        x.lies(a);
        x.judge(a, b, 1);
        x.judge(0, a, b);
        x.untell(a);
        x.later(a);
        x.can(a, 0, b);
        x.can(0, a, b);
        x.ask(a, 0, b);
        x.ask(0, a, b);
        x.image(a);
        x.back(b);
        x.about(a);
        x.end(a);
        x.feed(a, b, a, b, a);
        x.storm();
        x.year();
        x.undo();
        x.redo();
        x.hush();
    }

    /** As deep as formulas go: fewer than 300 calls stand open, so a small stack is enough. */
    private static void deep() {
        Thread small = new Thread(null, () -> {
            GraftedLaws x = new GraftedLaws();
            Desk.feed(x, "aim not (not (not (not 1))) or (((((((1)))))));");
            DESK.due("on a small stack", x.orchard(), 1);
        }, "small", 160 * 1024);
        small.start();
        try {
            small.join();
        } catch (InterruptedException e) {
            throw new IllegalStateException(e);
        }
    }
}
