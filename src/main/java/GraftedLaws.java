import java.util.Arrays;

/**
 * An orchard in which laws are grown. The document (../shared/DOC.md) says what each call answers; the words
 * that stand in capitals there are the names of things here.
 *
 * A set of clauses is always an int of bits, clause 0 being the lowest.
 */
public final class GraftedLaws {
    public static final int NONE = -1;
    public static final int SPLIT = -2;

    private static final int NO_CLAUSE = -2;
    private static final int NO_SUCH_SET = -2;
    private static final int NO_CASE = -3;

    private static final int TRAITS = 4;
    private static final int TREES = 3;
    private static final int CLAUSES = 12;
    private static final int CASES = 256;
    private static final int SETS = 1 << CLAUSES;
    private static final int MOST_VERDICT = 99;

    private static final int TAPE_BYTES = 1600;
    private static final int FED_BYTES = 20;
    private static final int LYING_CASES = 40;
    private static final int LONGEST_GAME = 3;

    private final Tape tape;
    private final Reader reader;
    private final Cases cases;
    private final Seasons seasons;
    private final Wishes wishes;
    private final Judgements judgements;
    private final Lying lying;
    private Orchard laws;
    private Orchard spare;
    private Searches searches;

    public GraftedLaws() {
        laws = new Orchard();
        spare = new Orchard();
        tape = new Tape();
        reader = new Reader(tape, spare);
        cases = new Cases(laws);
        seasons = new Seasons(laws);
        wishes = new Wishes();
        judgements = new Judgements();
        lying = new Lying();
        settle();
    }

    public int feed(int a, int b, int c, int d, int e) {
        if (tape.length + FED_BYTES > TAPE_BYTES) {
            return NONE;
        }
        tape.put(a);
        tape.put(b);
        tape.put(c);
        tape.put(d);
        tape.put(e);
        return tape.length;
    }

    public int end(int n) {
        if (n < 0 || n > tape.length) {
            return NONE;
        }
        tape.length = n;
        return n;
    }

    public int orchard() {
        boolean told = reader.reads(spare);
        tape.length = 0;
        if (!told) {
            return NONE;
        }
        Orchard old = laws;
        laws = spare;
        spare = old;
        settle();
        return cases.count;
    }

    private void settle() {
        cases.grow(laws);
        seasons.begin(laws);
        wishes.count = 0;
        judgements.count = 0;
        lying.clear();
    }

    public int fault(int what) {
        if (what == 0) {
            return reader.fault;
        }
        return what == 1 ? reader.place : NONE;
    }

    public int trait(int kase, int trait) {
        if (!cases.has(kase) || !laws.traits.has(trait)) {
            return NONE;
        }
        return cases.valueIn(kase, trait);
    }

    public int clause(int clause, int what) {
        if (!laws.clauses.has(clause)) {
            return NO_CLAUSE;
        }
        switch (what) {
            case 0:
                return laws.homes[clause];
            case 1:
                return laws.verdicts[clause];
            case 2:
                return seasons.inNow() >> clause & 1;
            case 3:
                return seasons.bearing() >> clause & 1;
            case 4:
                return seasons.bearsFrom(clause);
            case 5:
                return seasons.suckersIn(clause);
            default:
                return NO_CLAUSE;
        }
    }

    public int applies(int clause, int kase) {
        if (!laws.clauses.has(clause) || !cases.has(kase)) {
            return NONE;
        }
        return cases.applying(kase) >> clause & 1;
    }

    public int over(int clause, int other) {
        if (!laws.clauses.has(clause) || !laws.clauses.has(other)) {
            return NONE;
        }
        return cases.above(other) >> clause & 1;
    }

    public int wide(int clause) {
        if (!laws.clauses.has(clause)) {
            return NONE;
        }
        int wide = 0;
        for (int kase = 0; kase < cases.count; kase++) {
            wide += cases.applying(kase) >> clause & 1;
        }
        return wide;
    }

    public int follows(int tree, int kase) {
        if (!laws.trees.has(tree) || !cases.has(kase)) {
            return NO_CASE;
        }
        return cases.outcome(tree, seasons.bearing(), kase);
    }

    public int many(int tree, int what) {
        if (!laws.trees.has(tree) || what < 0 || what > 2) {
            return NONE;
        }
        int set = seasons.bearing();
        int many = 0;
        for (int kase = 0; kase < cases.count; kase++) {
            if (sortOf(cases.outcome(tree, set, kase)) == what) {
                many++;
            }
        }
        return many;
    }

    public int first(int tree, int what) {
        if (!laws.trees.has(tree)) {
            return NONE;
        }
        int set = seasons.bearing();
        for (int kase = 0; kase < cases.count; kase++) {
            if (sortOf(cases.outcome(tree, set, kase)) == what) {
                return kase;
            }
        }
        return NONE;
    }

    /** As many() and first() number them: 0 a verdict, 1 NONE, 2 SPLIT. */
    private static int sortOf(int outcome) {
        return outcome >= 0 ? 0 : -outcome;
    }

    public int may(int clause, int what) {
        if (!laws.clauses.has(clause) || what < 0 || what > 1) {
            return NONE;
        }
        int in = seasons.inNow();
        boolean isFree = what == 0 ? laws.canBeGrafted(clause, in) : laws.canBePruned(clause, in);
        return isFree ? 1 : 0;
    }

    public int graft(int clause) {
        if (!laws.clauses.has(clause) || !laws.canBeGrafted(clause, seasons.inNow())) {
            return NONE;
        }
        seasons.graftNow(clause);
        return seasons.bearsFrom(clause);
    }

    public boolean prune(int clause) {
        if (!laws.clauses.has(clause) || !laws.canBePruned(clause, seasons.inNow())) {
            return false;
        }
        seasons.pruneNow(clause);
        return true;
    }

    public int year() {
        return seasons.passYear() ? seasons.yearNow() : NONE;
    }

    public int storm() {
        return seasons.passStorm();
    }

    public boolean undo() {
        return seasons.takeBack();
    }

    public boolean redo() {
        return seasons.doAgain();
    }

    public int fruit(int clause) {
        lying.clear();
        if (!laws.clauses.has(clause)) {
            return NONE;
        }
        int tree = laws.homes[clause];
        int set = seasons.bearing();
        int other = set ^ 1 << clause;
        int fruit = 0;
        for (int kase = 0; kase < cases.count; kase++) {
            if (cases.outcome(tree, set, kase) != cases.outcome(tree, other, kase)) {
                fruit++;
                lying.addCase(kase);
            }
        }
        return fruit;
    }

    public int wish(int kase, int verdict) {
        if (!cases.has(kase) || !canFollow(verdict)) {
            return NONE;
        }
        return wishes.add(kase, verdict) ? wishes.count : NONE;
    }

    private static boolean canFollow(int verdict) {
        return verdict >= SPLIT && verdict <= MOST_VERDICT;
    }

    public int hush() {
        int were = wishes.count;
        wishes.count = 0;
        return were;
    }

    public int least(int tree) {
        if (!laws.trees.has(tree)) {
            return NONE;
        }
        return Searches.fewestMore(cases, tree, seasons.bearing(), wishes);
    }

    public int pith(int tree) {
        if (!laws.trees.has(tree)) {
            return NONE;
        }
        return Searches.fewestAlike(cases, tree, seasons.bearing());
    }

    public int aim(int kase) {
        return cases.has(kase) ? cases.aimOf(kase) : 0;
    }

    public int holes(int tree, int what) {
        if (!laws.trees.has(tree) || what < 0 || what > 2) {
            return NONE;
        }
        int set = seasons.bearing();
        int holes = 0;
        int widest = NONE;
        int most = 0;
        for (int kase = 0; kase < cases.count; kase++) {
            int gain = cases.gain(tree, set, kase);
            if (gain > 0) {
                holes++;
            }
            if (gain > most) {
                most = gain;
                widest = kase;
            }
        }
        if (what == 0) {
            return holes;
        }
        return what == 1 ? widest : most;
    }

    public long gains(int tree) {
        return laws.trees.has(tree) ? cases.gainsBy(tree, seasons.bearing()) : NONE;
    }

    public int mend(int tree) {
        if (!laws.trees.has(tree)) {
            return NONE;
        }
        int set = seasons.bearing();
        int rest = laws.members[tree] & ~set;
        int mend = NONE;
        long fewest = cases.gainsBy(tree, set);
        for (int clause = 0; clause < CLAUSES; clause++) {
            if ((rest >> clause & 1) != 0) {
                long gains = cases.gainsBy(tree, set | 1 << clause);
                if (gains < fewest) {
                    fewest = gains;
                    mend = clause;
                }
            }
        }
        return mend;
    }

    public int evade(int tree, int kase) {
        if (!laws.trees.has(tree) || !cases.has(kase)) {
            return NONE;
        }
        int set = seasons.bearing();
        int paid = cases.paid(tree, set, kase);
        int best = NONE;
        int fewest = TRAITS + 1;
        int least = paid;
        for (int other = 0; other < cases.count; other++) {
            int pays = cases.paid(tree, set, other);
            if (pays < paid) {
                int changed = cases.traitsChanged(kase, other);
                if (changed < fewest || changed == fewest && pays < least) {
                    best = other;
                    fewest = changed;
                    least = pays;
                }
            }
        }
        return best;
    }

    public int unlike(int tree, int other) {
        lying.clear();
        if (!laws.trees.has(tree) || !laws.trees.has(other)) {
            return NONE;
        }
        int set = seasons.bearing();
        int unlike = 0;
        for (int kase = 0; kase < cases.count; kase++) {
            if (cases.outcome(tree, set, kase) != cases.outcome(other, set, kase)) {
                unlike++;
                lying.addCase(kase);
            }
        }
        return unlike;
    }

    public int reach(int tree, int clauses) {
        lying.clear();
        if (!laws.trees.has(tree) || (clauses & ~laws.members[tree]) != 0) {
            return NO_SUCH_SET;
        }
        return searchesMade().shortestWay(laws, tree, seasons.inNow(), clauses, lying);
    }

    public int parties(int tree, int n, int what) {
        if (!laws.trees.has(tree) || n < 1 || n > LONGEST_GAME || what < 0 || what > 1) {
            return NONE;
        }
        Searches made = searchesMade();
        int paid = made.playedOut(cases, tree, seasons.bearing(), n);
        return what == 0 ? paid : made.choice;
    }

    /** Made when first asked for: an object that never searches needs none of its long rows. */
    private Searches searchesMade() {
        if (searches == null) {
            searches = new Searches();
        }
        return searches;
    }

    public int lies(int i) {
        return lying.numberAt(i);
    }

    public int judge(int tree, int kase, int verdict) {
        if (!laws.trees.has(tree) || !cases.has(kase) || !canFollow(verdict)) {
            return NONE;
        }
        return judgements.add(tree, kase, verdict);
    }

    public boolean untell(int judgement) {
        return judgements.untellNow(judgement);
    }

    public int later(int by) {
        return judgements.passTime(by) ? judgements.time : NONE;
    }

    public int can(int tree, int what, int k) {
        if (!laws.trees.has(tree) || what < 0 || what > 2) {
            return NONE;
        }
        Searches made = searchesMade();
        made.findSets(cases, tree, judgements, k);
        if (what == 0) {
            return made.found;
        }
        return what == 1 ? made.inAll() : made.inSome();
    }

    public int ask(int tree, int what, int k) {
        if (!laws.trees.has(tree) || what < 0 || what > 1) {
            return NONE;
        }
        Searches made = searchesMade();
        made.findSets(cases, tree, judgements, k);
        made.findQuestion(cases, tree);
        return what == 0 ? made.question : made.left;
    }

    public int image(int box) {
        return seasons.keep(box) ? seasons.yearNow() : NONE;
    }

    public int back(int box) {
        return seasons.bringBack(box) ? seasons.yearNow() : NONE;
    }

    public int about(int what) {
        switch (what) {
            case 0:
                return laws.traits.count;
            case 1:
                return cases.count;
            case 2:
                return laws.trees.count;
            case 3:
                return laws.clauses.count;
            case 4:
                return seasons.yearNow();
            case 5:
                return seasons.seedNow();
            case 6:
                return Integer.bitCount(seasons.inNow());
            case 7:
                return seasons.undoable;
            case 8:
                return seasons.redoable;
            case 9:
                return wishes.count;
            case 10:
                return judgements.count;
            case 11:
                return judgements.time;
            case 12:
                return tape.length;
            case 13:
                return laws.formulas.units;
            case 14:
                return lying.count;
            case 15:
                return laws.links;
            default:
                return NONE;
        }
    }

    /** The bytes that were fed, and the token among them that is read at present. */
    private static final class Tape {
        static final int END = 0;
        static final int NO_TOKEN = 1;
        static final int WORD = 2;
        static final int NUMBER = 3;
        static final int SIGN = 4;
        /** Behind a fault: no token comes any more, so that no loop over them goes on. */
        static final int STOPPED = 5;
        private static final int LONGEST_WORD = 8;
        private static final int MOST_DIGITS = 4;

        private final byte[] bytes = new byte[TAPE_BYTES];
        int length;
        int kind;
        int place;
        /** A NUMBER's value, or the byte of a SIGN. */
        int value;
        /** A WORD's letters, eight bits each: of eight letters no two words come to the same. */
        long word;
        private int next;

        void put(int number) {
            for (int shift = 24; shift >= 0; shift -= 8) {
                if (length >= 0 && length < TAPE_BYTES) {
                    bytes[length] = (byte) (number >> shift);
                    length++;
                }
            }
        }

        void rewind() {
            next = 0;
            kind = END;
            step();
        }

        void step() {
            if (kind == STOPPED) {
                return;
            }
            int from = next;
            while (from < length && isBlank(at(from))) {
                from++;
            }
            place = from;
            next = from;
            if (from >= length) {
                kind = END;
            } else if (isLetter(at(from))) {
                readWord();
            } else if (isDigit(at(from))) {
                readNumber();
            } else {
                readSign();
            }
        }

        private void readWord() {
            word = 0;
            while (next < length && isLetter(at(next))) {
                word = word << 8 | at(next);
                next++;
            }
            kind = next - place <= LONGEST_WORD ? WORD : NO_TOKEN;
        }

        private void readNumber() {
            value = 0;
            while (next < length && isDigit(at(next))) {
                value = value * 10 + at(next) - '0';
                next++;
            }
            boolean fits = next - place <= MOST_DIGITS && !isLetter(at(next));
            kind = fits ? NUMBER : NO_TOKEN;
        }

        private void readSign() {
            value = at(place);
            kind = isSign(value) ? SIGN : NO_TOKEN;
            next = place + 1;
        }

        /** Behind the end there is a 0, which is part of no token. */
        private int at(int i) {
            return i >= 0 && i < length && i < TAPE_BYTES ? bytes[i] : 0;
        }

        private static boolean isBlank(int b) {
            return b == 32 || b == 10;
        }

        private static boolean isLetter(int b) {
            return b >= 'a' && b <= 'z';
        }

        private static boolean isDigit(int b) {
            return b >= '0' && b <= '9';
        }

        private static boolean isSign(int b) {
            switch (b) {
                case ';':
                case '(':
                case ')':
                case '<':
                case '>':
                case '=':
                case '+':
                case '-':
                case '*':
                case '/':
                case '%':
                    return true;
                default:
                    return false;
            }
        }
    }

    /** The names of one sort, numbered as they were told. */
    private static final class Names {
        private final long[] words;
        int count;

        Names(int most) {
            words = new long[Math.max(most, 0)];
        }

        boolean has(int number) {
            return number >= 0 && number < count;
        }

        boolean isFull() {
            return count >= words.length;
        }

        void add(long word) {
            if (count >= 0 && count < words.length) {
                words[count] = word;
                count++;
            }
        }

        int numberOf(long word) {
            for (int i = 0; i < count && i < words.length; i++) {
                if (words[i] == word) {
                    return i;
                }
            }
            return NONE;
        }
    }

    /** Reads the tape's lines into an orchard, up to the first fault. */
    private static final class Reader {
        private static final int NO_TOKEN = 1;
        private static final int CANT_STAND = 2;
        private static final int TOLD_ALREADY = 3;
        private static final int CANT_BE = 4;
        private static final int NO_SUCH_NAME = 5;
        private static final int OTHER_TREE = 6;

        private static final int LINKS = 30;
        private static final int UNITS = 120;
        private static final int UNITS_IN_ONE = 30;
        private static final int DEEPEST = 6;

        private static final int AIM_TOLD = 1;
        private static final int BEARS_TOLD = 2;
        private static final int SUCKERS_TOLD = 4;
        private static final int SEED_TOLD = 8;

        /* The words that stand for themselves, as Tape.word holds them. */
        private static final long TRAIT = 0x7472616974L;
        private static final long TREE = 0x74726565L;
        private static final long LATER = 0x6c61746572L;
        private static final long NARROW = 0x6e6172726f77L;
        private static final long CLAUSE = 0x636c61757365L;
        private static final long ON = 0x6f6eL;
        private static final long SAYS = 0x73617973L;
        private static final long SET = 0x736574L;
        private static final long FORBIDS = 0x666f7262696473L;
        private static final long OVER = 0x6f766572L;
        private static final long NEEDS = 0x6e65656473L;
        private static final long BARS = 0x62617273L;
        private static final long IF = 0x6966L;
        private static final long AIM = 0x61696dL;
        private static final long BEARS = 0x6265617273L;
        private static final long SUCKERS = 0x7375636b657273L;
        private static final long SEED = 0x73656564L;
        private static final long OR = 0x6f72L;
        private static final long AND = 0x616e64L;
        private static final long NOT = 0x6e6f74L;
        private static final long[] RESERVED = {
            TRAIT, TREE, LATER, NARROW, CLAUSE, ON, SAYS, SET, FORBIDS, OVER,
            NEEDS, BARS, IF, AIM, BEARS, SUCKERS, SEED, OR, AND, NOT
        };

        private final Tape tape;
        private Orchard orchard;
        private int toldOnce;
        private int unitsHere;
        int fault;
        int place = NONE;

        Reader(Tape tape, Orchard blank) {
            this.tape = tape;
            orchard = blank;
        }

        boolean reads(Orchard blank) {
            start(blank);
            for (int n = 0; n < TAPE_BYTES && fault == 0 && tape.kind != Tape.END; n++) {
                if (isWord(TRAIT)) {
                    readTrait();
                } else if (isWord(TREE)) {
                    readTree();
                } else if (isWord(CLAUSE)) {
                    readClause();
                } else if (isWord(AIM)) {
                    startOnce(AIM_TOLD);
                    readFormula(Formulas.AIM_SLOT);
                } else if (isWord(BEARS)) {
                    startOnce(BEARS_TOLD);
                    orchard.bears = readNumber(0, 9);
                } else if (isWord(SUCKERS)) {
                    startOnce(SUCKERS_TOLD);
                    orchard.suckers = readNumber(0, 9);
                } else if (isWord(SEED)) {
                    startOnce(SEED_TOLD);
                    orchard.seed = readNumber(0, 999);
                } else {
                    refuse(CANT_STAND);
                }
                passSign(';');
            }
            return fault == 0;
        }

        private void start(Orchard blank) {
            orchard = blank;
            orchard.clear();
            toldOnce = 0;
            fault = 0;
            place = NONE;
            tape.rewind();
        }

        private void startOnce(int line) {
            if ((toldOnce & line) != 0) {
                refuse(CANT_STAND);
            }
            toldOnce |= line;
            tape.step();
        }

        private void startOf(Names sort) {
            if (sort.isFull()) {
                refuse(CANT_STAND);
            }
            tape.step();
        }

        private void readTrait() {
            startOf(orchard.traits);
            long name = readNewName(orchard.traits);
            int size = readNumber(2, 4);
            if (fault == 0) {
                orchard.addTrait(name, size);
            }
        }

        private void readTree() {
            startOf(orchard.trees);
            long name = readNewName(orchard.trees);
            int manner = Orchard.AS_TOLD;
            if (isWord(LATER)) {
                manner = Orchard.BY_LATER;
                tape.step();
            } else if (isWord(NARROW)) {
                manner = Orchard.BY_NARROW;
                tape.step();
            }
            if (fault == 0) {
                orchard.addTree(name, manner);
            }
        }

        /** Its name is added last: what stands within the line can't name the clause itself. */
        private void readClause() {
            startOf(orchard.clauses);
            long name = readNewName(orchard.clauses);
            passWord(ON);
            int tree = lookUp(orchard.trees);
            tape.step();
            passWord(SAYS);
            int verdict = readNumber(0, MOST_VERDICT);
            if (fault != 0) {
                return;
            }
            int clause = orchard.clauses.count;
            orchard.startClause(tree, verdict);
            readMarks(clause);
            passWord(IF);
            readFormula(clause);
            if (fault == 0) {
                orchard.clauses.add(name);
            }
        }

        private void readMarks(int clause) {
            for (int n = 0; n < TAPE_BYTES && fault == 0; n++) {
                if (isWord(SET)) {
                    orchard.sets = marked(orchard.sets, clause);
                } else if (isWord(FORBIDS)) {
                    orchard.forbidders = marked(orchard.forbidders, clause);
                } else if (isWord(OVER) || isWord(NEEDS) || isWord(BARS)) {
                    readLink(clause);
                } else {
                    return;
                }
            }
        }

        private int marked(int set, int clause) {
            if ((set >> clause & 1) != 0) {
                refuse(CANT_STAND);
            }
            tape.step();
            return set | 1 << clause;
        }

        private void readLink(int clause) {
            if (orchard.links >= LINKS) {
                refuse(CANT_STAND);
                return;
            }
            long sort = tape.word;
            tape.step();
            int other = lookUp(orchard.clauses);
            if (fault == 0 && sort == OVER && !orchard.onOneTree(clause, other)) {
                refuse(OTHER_TREE);
            }
            tape.step();
            if (fault != 0) {
                return;
            }
            orchard.links++;
            if (sort == OVER) {
                orchard.addOver(clause, other);
            } else if (sort == NEEDS) {
                orchard.addNeed(clause, other);
            } else {
                orchard.addBar(clause, other);
            }
        }

        private void readFormula(int slot) {
            if (fault != 0) {
                return;
            }
            unitsHere = 0;
            orchard.formulas.start(slot);
            readOr(0);
            orchard.formulas.close(slot);
        }

        private void readOr(int depth) {
            readAnd(depth);
            for (int n = 0; n < TAPE_BYTES && isWord(OR); n++) {
                tape.step();
                readAnd(depth);
                orchard.formulas.addOperator('|');
            }
        }

        private void readAnd(int depth) {
            readOne(depth);
            for (int n = 0; n < TAPE_BYTES && isWord(AND); n++) {
                tape.step();
                readOne(depth);
                orchard.formulas.addOperator('&');
            }
        }

        private void readOne(int depth) {
            if (isWord(NOT)) {
                if (depth > DEEPEST) {
                    refuse(CANT_STAND);
                    return;
                }
                tape.step();
                readOne(depth + 1);
                orchard.formulas.addOperator('!');
                return;
            }
            readSum(depth);
            if (isSign('<') || isSign('>') || isSign('=')) {
                int relation = tape.value;
                tape.step();
                readSum(depth);
                orchard.formulas.addOperator(relation);
            }
        }

        private void readSum(int depth) {
            readTerm(depth);
            for (int n = 0; n < TAPE_BYTES && (isSign('+') || isSign('-')); n++) {
                int operator = tape.value;
                tape.step();
                readTerm(depth);
                orchard.formulas.addOperator(operator);
            }
        }

        private void readTerm(int depth) {
            readUnit(depth);
            for (int n = 0; n < TAPE_BYTES && (isSign('*') || isSign('/') || isSign('%')); n++) {
                int operator = tape.value;
                tape.step();
                readUnit(depth);
                orchard.formulas.addOperator(operator);
            }
        }

        private void readUnit(int depth) {
            if (unitsHere >= UNITS_IN_ONE || orchard.formulas.units >= UNITS) {
                refuse(CANT_STAND);
            }
            if (fault != 0) {
                return;
            }
            unitsHere++;
            orchard.formulas.units++;
            if (tape.kind == Tape.NUMBER) {
                orchard.formulas.addNumber(tape.value);
                tape.step();
            } else if (isSign('(')) {
                readInner(depth);
            } else {
                orchard.formulas.addTrait(lookUp(orchard.traits));
                tape.step();
            }
        }

        private void readInner(int depth) {
            if (depth > DEEPEST) {
                refuse(CANT_STAND);
                return;
            }
            tape.step();
            readOr(depth + 1);
            if (!isSign(')')) {
                refuse(CANT_STAND);
            }
            tape.step();
        }

        private long readNewName(Names sort) {
            long name = tape.word;
            if (!isName()) {
                refuse(CANT_STAND);
            } else if (sort.numberOf(name) != NONE) {
                refuse(TOLD_ALREADY);
            }
            tape.step();
            return name;
        }

        /** Does not go on behind the name: it may yet be refused for something else. */
        private int lookUp(Names sort) {
            if (!isName()) {
                refuse(CANT_STAND);
                return NONE;
            }
            int number = sort.numberOf(tape.word);
            if (number == NONE) {
                refuse(NO_SUCH_NAME);
            }
            return number;
        }

        private int readNumber(int least, int most) {
            int number = tape.value;
            if (tape.kind != Tape.NUMBER) {
                refuse(CANT_STAND);
            } else if (number < least || number > most) {
                refuse(CANT_BE);
            }
            tape.step();
            return number;
        }

        private void passWord(long word) {
            if (!isWord(word)) {
                refuse(CANT_STAND);
            }
            tape.step();
        }

        private void passSign(int sign) {
            if (!isSign(sign)) {
                refuse(CANT_STAND);
            }
            tape.step();
        }

        private void refuse(int what) {
            if (fault == 0) {
                fault = tape.kind == Tape.NO_TOKEN ? NO_TOKEN : what;
                place = tape.place;
                tape.kind = Tape.STOPPED;
            }
        }

        private boolean isWord(long word) {
            return tape.kind == Tape.WORD && tape.word == word;
        }

        private boolean isSign(int sign) {
            return tape.kind == Tape.SIGN && tape.value == sign;
        }

        private boolean isName() {
            if (tape.kind != Tape.WORD) {
                return false;
            }
            for (int i = 0; i < RESERVED.length; i++) {
                if (RESERVED[i] == tape.word) {
                    return false;
                }
            }
            return true;
        }
    }

    /** What a text tells: traits, trees and clauses, each sort numbered by itself. */
    private static final class Orchard {
        static final int AS_TOLD = 0;
        static final int BY_LATER = 1;
        static final int BY_NARROW = 2;

        final Names traits = new Names(TRAITS);
        final int[] sizes = new int[TRAITS];
        final Names trees = new Names(TREES);
        private final int[] manners = new int[TREES];
        final int[] members = new int[TREES];
        final Names clauses = new Names(CLAUSES);
        final int[] homes = new int[CLAUSES];
        final int[] verdicts = new int[CLAUSES];
        private final int[] overs = new int[CLAUSES];
        private final int[] needs = new int[CLAUSES];
        /** For each clause those that bar it. */
        private final int[] barrers = new int[CLAUSES];
        final Formulas formulas = new Formulas();
        int sets;
        int forbidders;
        int links;
        int bears = 1;
        int suckers;
        int seed;

        void clear() {
            traits.count = 0;
            trees.count = 0;
            clauses.count = 0;
            Arrays.fill(members, 0);
            Arrays.fill(overs, 0);
            Arrays.fill(needs, 0);
            Arrays.fill(barrers, 0);
            formulas.clear();
            sets = 0;
            forbidders = 0;
            links = 0;
            bears = 1;
            suckers = 0;
            seed = 0;
        }

        void addTrait(long name, int size) {
            if (!traits.isFull()) {
                sizes[traits.count] = size;
                traits.add(name);
            }
        }

        void addTree(long name, int manner) {
            if (!trees.isFull()) {
                manners[trees.count] = manner;
                trees.add(name);
            }
        }

        void startClause(int tree, int verdict) {
            if (!clauses.isFull() && trees.has(tree)) {
                int clause = clauses.count;
                homes[clause] = tree;
                verdicts[clause] = verdict;
                members[tree] |= 1 << clause;
            }
        }

        /** Of the clause that is being told, which has no name yet, and one told ahead. */
        boolean onOneTree(int clause, int other) {
            return isRow(clause) && isRow(other) && homes[clause] == homes[other];
        }

        void addOver(int clause, int other) {
            if (isRow(clause)) {
                overs[clause] |= 1 << other;
            }
        }

        void addNeed(int clause, int other) {
            if (isRow(clause)) {
                needs[clause] |= 1 << other;
            }
        }

        void addBar(int clause, int other) {
            if (isRow(other)) {
                barrers[other] |= 1 << clause;
            }
        }

        boolean canBeGrafted(int clause, int in) {
            if (!clauses.has(clause) || (in >> clause & 1) != 0) {
                return false;
            }
            return (needs[clause] & ~in) == 0 && (forbidders & in & members[homes[clause]]) == 0;
        }

        boolean canBePruned(int clause, int in) {
            return clauses.has(clause) && (in >> clause & 1) != 0 && (barrers[clause] & in) == 0;
        }

        /** Without what comes of the cases: by what is told, or by what is later. */
        boolean isToldOver(int clause, int other) {
            if (clause == other || !clauses.has(clause) || !clauses.has(other) || homes[clause] != homes[other]) {
                return false;
            }
            boolean isLater = clause > other && manners[homes[clause]] == BY_LATER;
            return isLater || (overs[clause] >> other & 1) != 0;
        }

        boolean areByNarrow(int clause, int other) {
            return clause != other && clauses.has(clause) && clauses.has(other)
                && homes[clause] == homes[other] && manners[homes[clause]] == BY_NARROW;
        }

        private static boolean isRow(int clause) {
            return clause >= 0 && clause < CLAUSES;
        }
    }

    /** The formulas of the clauses and of the aim, each as codes in which an operator stands behind its parts. */
    private static final class Formulas {
        static final int AIM_SLOT = CLAUSES;
        private static final int SLOTS = CLAUSES + 1;
        /* 120 units, as many operators between them, and a not for each four bytes of the rest of the tape. */
        private static final int CODES = 640;
        private static final int STACK = 32;
        private static final int TRAIT_CODE = 10000;
        private static final int OPERATOR_CODE = 20000;

        private final short[] codes = new short[CODES];
        private int length;
        private final int[] starts = new int[SLOTS];
        private final int[] ends = new int[SLOTS];
        private final int[] stack = new int[STACK];
        int units;

        void clear() {
            length = 0;
            units = 0;
            Arrays.fill(ends, 0);
        }

        void start(int slot) {
            if (slot >= 0 && slot < SLOTS) {
                starts[slot] = length;
            }
        }

        void close(int slot) {
            if (slot >= 0 && slot < SLOTS) {
                ends[slot] = length;
            }
        }

        void addNumber(int number) {
            add(number);
        }

        void addTrait(int number) {
            add(TRAIT_CODE + number);
        }

        void addOperator(int sign) {
            add(OPERATOR_CODE + sign);
        }

        private void add(int code) {
            if (length >= 0 && length < CODES) {
                codes[length] = (short) code;
                length++;
            }
        }

        /** 0 for a formula that was not told. */
        int valueOf(int slot, int[] row) {
            if (slot < 0 || slot >= SLOTS) {
                return 0;
            }
            int height = 0;
            for (int i = starts[slot]; i >= 0 && i < ends[slot] && i < CODES; i++) {
                int code = codes[i];
                if (code >= OPERATOR_CODE) {
                    height = operate(code - OPERATOR_CODE, height);
                } else if (height >= 0 && height < STACK) {
                    stack[height] = code < TRAIT_CODE ? code : valueIn(row, code - TRAIT_CODE);
                    height++;
                }
            }
            return height > 0 ? stack[0] : 0;
        }

        private static int valueIn(int[] row, int trait) {
            return trait >= 0 && trait < row.length ? row[trait] : 0;
        }

        private int operate(int sign, int height) {
            int top = height - 1;
            if (top < 0 || top >= STACK) {
                return height;
            }
            if (sign == '!') {
                stack[top] = stack[top] == 0 ? 1 : 0;
                return height;
            }
            if (top < 1) {
                return height;
            }
            stack[top - 1] = joined(sign, stack[top - 1], stack[top]);
            return top;
        }

        private static int joined(int sign, int left, int right) {
            switch (sign) {
                case '+':
                    return left + right;
                case '-':
                    return left - right;
                case '*':
                    return left * right;
                case '/':
                    return right == 0 ? 0 : left / right;
                case '%':
                    return right == 0 ? 0 : left % right;
                case '<':
                    return left < right ? 1 : 0;
                case '>':
                    return left > right ? 1 : 0;
                case '=':
                    return left == right ? 1 : 0;
                case '&':
                    return left != 0 && right != 0 ? 1 : 0;
                default:
                    return left != 0 || right != 0 ? 1 : 0;
            }
        }
    }

    /** The cases of an orchard, and what follows for each of them by a set of clauses. */
    private static final class Cases {
        private static final int UNKNOWN = -3;

        private Orchard laws;
        int count;
        private final int[] strides = new int[TRAITS];
        private final int[] row = new int[TRAITS];
        private final short[] applying = new short[CASES];
        private final int[] aims = new int[CASES];
        /** For each clause those that are over it. */
        private final int[] aboves = new int[CLAUSES];
        /** What follows by a set of clauses that all apply: only this set matters, whatever the case is. */
        private final short[] outcomes = new short[SETS];

        Cases(Orchard told) {
            laws = told;
        }

        void grow(Orchard told) {
            laws = told;
            measure();
            for (int kase = 0; kase < count && kase < CASES; kase++) {
                fillRow(kase);
                applying[kase] = (short) clausesOfRow();
                aims[kase] = laws.formulas.valueOf(Formulas.AIM_SLOT, row);
            }
            for (int clause = 0; clause < CLAUSES; clause++) {
                aboves[clause] = clausesOver(clause);
            }
            Arrays.fill(outcomes, (short) UNKNOWN);
        }

        private void measure() {
            count = 1;
            for (int trait = TRAITS - 1; trait >= 0; trait--) {
                strides[trait] = count;
                if (laws.traits.has(trait)) {
                    count *= laws.sizes[trait];
                }
            }
        }

        private void fillRow(int kase) {
            for (int trait = 0; trait < TRAITS; trait++) {
                row[trait] = valueIn(kase, trait);
            }
        }

        private int clausesOfRow() {
            int set = 0;
            for (int clause = 0; clause < laws.clauses.count; clause++) {
                if (laws.formulas.valueOf(clause, row) != 0) {
                    set |= 1 << clause;
                }
            }
            return set;
        }

        private int clausesOver(int other) {
            int set = 0;
            for (int clause = 0; clause < laws.clauses.count; clause++) {
                boolean isOver = laws.isToldOver(clause, other)
                    || laws.areByNarrow(clause, other) && isNarrower(clause, other);
                if (isOver) {
                    set |= 1 << clause;
                }
            }
            return set;
        }

        private boolean isNarrower(int clause, int other) {
            boolean shares = false;
            boolean lacks = false;
            for (int kase = 0; kase < count; kase++) {
                boolean here = (applying(kase) >> clause & 1) != 0;
                boolean there = (applying(kase) >> other & 1) != 0;
                if (here && !there) {
                    return false;
                }
                if (here) {
                    shares = true;
                } else if (there) {
                    lacks = true;
                }
            }
            return shares && lacks;
        }

        boolean has(int kase) {
            return kase >= 0 && kase < count;
        }

        int valueIn(int kase, int trait) {
            if (!laws.traits.has(trait) || strides[trait] <= 0 || laws.sizes[trait] <= 0) {
                return 0;
            }
            return kase / strides[trait] % laws.sizes[trait];
        }

        int traitsChanged(int kase, int other) {
            int changed = 0;
            for (int trait = 0; trait < laws.traits.count; trait++) {
                if (valueIn(kase, trait) != valueIn(other, trait)) {
                    changed++;
                }
            }
            return changed;
        }

        int applying(int kase) {
            return kase >= 0 && kase < CASES ? applying[kase] : 0;
        }

        int aimOf(int kase) {
            return kase >= 0 && kase < CASES ? aims[kase] : 0;
        }

        int above(int clause) {
            return clause >= 0 && clause < CLAUSES ? aboves[clause] : 0;
        }

        int membersOf(int tree) {
            return tree >= 0 && tree < TREES ? laws.members[tree] : 0;
        }

        int outcome(int tree, int set, int kase) {
            return outcomeOf(set & membersOf(tree) & applying(kase));
        }

        /** By clauses of one tree that all apply. */
        int outcomeOf(int set) {
            if (set < 0 || set >= SETS) {
                return NONE;
            }
            if (outcomes[set] == UNKNOWN) {
                outcomes[set] = (short) weighed(set);
            }
            return outcomes[set];
        }

        private int weighed(int set) {
            int outcome = NONE;
            for (int clause = 0; clause < CLAUSES; clause++) {
                if ((set >> clause & 1) != 0 && (aboves[clause] & set) == 0) {
                    int verdict = laws.verdicts[clause];
                    if (outcome != NONE && outcome != verdict) {
                        return SPLIT;
                    }
                    outcome = verdict;
                }
            }
            return outcome;
        }

        int paid(int tree, int set, int kase) {
            return Math.max(outcome(tree, set, kase), 0);
        }

        int paidByAll(int tree, int set) {
            int paid = 0;
            for (int kase = 0; kase < count; kase++) {
                paid += Math.max(outcome(tree, set, kase), 0);
            }
            return paid;
        }

        int gain(int tree, int set, int kase) {
            int paid = paid(tree, set, kase);
            return paid < aimOf(kase) ? aimOf(kase) - paid : 0;
        }

        long gainsBy(int tree, int set) {
            long gains = 0;
            for (int kase = 0; kase < count; kase++) {
                gains += gain(tree, set, kase);
            }
            return gains;
        }
    }

    /** What is in earnest: a row for the present, one behind each act that is kept, and one for each box. */
    private static final class Seasons {
        private static final int ACTS = 40;
        private static final int ROWS = ACTS + 1;
        private static final int BOXES = 3;
        private static final int LAST_YEAR = 1000;

        /* The places in a row. */
        private static final int YEAR = 0;
        private static final int SEED = 1;
        private static final int IN = 2;
        private static final int FROM = 3;
        private static final int SUCKER = FROM + CLAUSES;
        private static final int WIDTH = SUCKER + CLAUSES;

        private Orchard laws;
        private final int[] cells = new int[(ROWS + BOXES) * WIDTH];
        private int present;
        private int boxesFilled;
        int undoable;
        int redoable;

        Seasons(Orchard told) {
            laws = told;
        }

        void begin(Orchard told) {
            laws = told;
            boxesFilled = 0;
            forgetActs();
            write(YEAR, 0);
            write(SEED, told.seed);
            write(IN, told.sets);
            for (int clause = 0; clause < CLAUSES; clause++) {
                write(FROM + clause, (told.sets >> clause & 1) != 0 ? 0 : NONE);
                write(SUCKER + clause, NONE);
            }
        }

        int yearNow() {
            return read(YEAR);
        }

        int seedNow() {
            return read(SEED);
        }

        int inNow() {
            return read(IN);
        }

        int bearsFrom(int clause) {
            return isRow(clause) ? read(FROM + clause) : NONE;
        }

        int suckersIn(int clause) {
            return isRow(clause) ? read(SUCKER + clause) : NONE;
        }

        int bearing() {
            int in = inNow();
            int year = yearNow();
            int set = 0;
            for (int clause = 0; clause < CLAUSES; clause++) {
                if ((in >> clause & 1) != 0 && read(FROM + clause) <= year) {
                    set |= 1 << clause;
                }
            }
            return set;
        }

        void graftNow(int clause) {
            startAct();
            letIn(clause, yearNow() + laws.bears);
        }

        void pruneNow(int clause) {
            startAct();
            letOut(clause, laws.suckers == 0 ? NONE : yearNow() + laws.suckers);
        }

        boolean passYear() {
            if (yearNow() >= LAST_YEAR) {
                return false;
            }
            startAct();
            int year = yearNow() + 1;
            write(YEAR, year);
            for (int clause = 0; clause < CLAUSES; clause++) {
                if (read(SUCKER + clause) == year) {
                    write(SUCKER + clause, NONE);
                    if ((inNow() >> clause & 1) == 0) {
                        letIn(clause, year);
                    }
                }
            }
            return true;
        }

        int passStorm() {
            startAct();
            int seed = (seedNow() * 137 + 71) % 1000;
            write(SEED, seed);
            int in = inNow();
            int many = Integer.bitCount(in);
            if (many == 0) {
                return NONE;
            }
            int clause = memberAt(in, seed % many);
            letOut(clause, NONE);
            return clause;
        }

        private static int memberAt(int set, int place) {
            int ahead = 0;
            for (int clause = 0; clause < CLAUSES; clause++) {
                if ((set >> clause & 1) != 0) {
                    if (ahead == place) {
                        return clause;
                    }
                    ahead++;
                }
            }
            return NONE;
        }

        private void letIn(int clause, int from) {
            if (isRow(clause)) {
                write(IN, inNow() | 1 << clause);
                write(FROM + clause, from);
            }
        }

        private void letOut(int clause, int sucker) {
            if (isRow(clause)) {
                write(IN, inNow() & ~(1 << clause));
                write(FROM + clause, NONE);
                write(SUCKER + clause, sucker);
            }
        }

        /** The rows are a ring: the one behind the present is the oldest, or was taken back. */
        private void startAct() {
            int next = (present + 1) % ROWS;
            copyRow(present, next);
            present = next;
            undoable = Math.min(undoable + 1, ACTS);
            redoable = 0;
        }

        boolean takeBack() {
            if (undoable == 0) {
                return false;
            }
            present = (present + ROWS - 1) % ROWS;
            undoable--;
            redoable++;
            return true;
        }

        boolean doAgain() {
            if (redoable == 0) {
                return false;
            }
            present = (present + 1) % ROWS;
            undoable++;
            redoable--;
            return true;
        }

        private void forgetActs() {
            undoable = 0;
            redoable = 0;
        }

        boolean keep(int box) {
            if (box < 0 || box >= BOXES) {
                return false;
            }
            copyRow(present, ROWS + box);
            boxesFilled |= 1 << box;
            return true;
        }

        boolean bringBack(int box) {
            if (box < 0 || box >= BOXES || (boxesFilled >> box & 1) == 0) {
                return false;
            }
            copyRow(ROWS + box, present);
            forgetActs();
            return true;
        }

        private void copyRow(int from, int to) {
            if (from >= 0 && from < ROWS + BOXES && to >= 0 && to < ROWS + BOXES) {
                System.arraycopy(cells, from * WIDTH, cells, to * WIDTH, WIDTH);
            }
        }

        private int read(int place) {
            int i = present * WIDTH + place;
            return i >= 0 && i < cells.length ? cells[i] : NONE;
        }

        private void write(int place, int value) {
            int i = present * WIDTH + place;
            if (i >= 0 && i < cells.length) {
                cells[i] = value;
            }
        }

        private static boolean isRow(int clause) {
            return clause >= 0 && clause < CLAUSES;
        }
    }

    /** What is wished for some cases. */
    private static final class Wishes {
        private static final int MOST = 20;

        private final int[] kases = new int[MOST];
        private final int[] verdicts = new int[MOST];
        int count;

        boolean add(int kase, int verdict) {
            if (count < 0 || count >= MOST) {
                return false;
            }
            kases[count] = kase;
            verdicts[count] = verdict;
            count++;
            return true;
        }

        boolean allFollow(Cases cases, int tree, int set) {
            for (int i = 0; i < count && i < MOST; i++) {
                if (cases.outcome(tree, set, kases[i]) != verdicts[i]) {
                    return false;
                }
            }
            return true;
        }
    }

    /** What was judged, each with the times between which it is held for true. */
    private static final class Judgements {
        private static final int MOST = 30;
        private static final int LONGEST_STEP = 1000;
        private static final int LAST_TIME = 100000;

        private final int[] trees = new int[MOST];
        private final int[] kases = new int[MOST];
        private final int[] verdicts = new int[MOST];
        private final int[] told = new int[MOST];
        /** NONE as long as it is not untold. */
        private final int[] untold = new int[MOST];
        int count;
        int time;

        int add(int tree, int kase, int verdict) {
            if (count < 0 || count >= MOST) {
                return NONE;
            }
            trees[count] = tree;
            kases[count] = kase;
            verdicts[count] = verdict;
            told[count] = time;
            untold[count] = NONE;
            count++;
            return count - 1;
        }

        boolean untellNow(int judgement) {
            if (judgement < 0 || judgement >= count || judgement >= MOST || untold[judgement] != NONE) {
                return false;
            }
            untold[judgement] = time;
            return true;
        }

        boolean passTime(int by) {
            if (by < 0 || by > LONGEST_STEP || time + by > LAST_TIME) {
                return false;
            }
            time += by;
            return true;
        }

        boolean allFollow(Cases cases, int tree, int set, int known) {
            for (int i = 0; i < count && i < MOST; i++) {
                if (trees[i] == tree && counts(i, known) && cases.outcome(tree, set, kases[i]) != verdicts[i]) {
                    return false;
                }
            }
            return true;
        }

        private boolean counts(int i, int known) {
            return told[i] <= known && (untold[i] == NONE || untold[i] > known);
        }
    }

    /** The numbers that the latest call left lying there. */
    private static final class Lying {
        private int[] numbers = new int[LYING_CASES];
        int count;

        void clear() {
            count = 0;
        }

        void addCase(int kase) {
            if (count >= 0 && count < LYING_CASES && count < numbers.length) {
                numbers[count] = kase;
                count++;
            }
        }

        /** Only a long way needs more than the first row has, and then one of its greatest length, once. */
        void makeRoom(int wanted) {
            if (wanted > numbers.length) {
                numbers = new int[SETS];
            }
            count = Math.max(0, Math.min(wanted, numbers.length));
        }

        void write(int i, int number) {
            if (i >= 0 && i < count && i < numbers.length) {
                numbers[i] = number;
            }
        }

        int numberAt(int i) {
            return i >= 0 && i < count && i < numbers.length ? numbers[i] : NONE;
        }
    }

    /** The searches over sets of clauses of one tree, with the long rows that some of them need. */
    private static final class Searches {
        private static final int OUTCOMES = MOST_VERDICT - SPLIT + 1;
        private static final int UNSEEN = -1;
        private static final int START = CLAUSES;

        /** The sets that were found, in the order in which they were. */
        private final short[] sets = new short[SETS];
        /** For each set what a search notes of it. */
        private final short[] notes = new short[SETS];
        private final int[] tally = new int[OUTCOMES];
        int found;
        int question;
        int left;
        int choice;

        /** The next subset of one, upwards, behind the last one 0. */
        private static int subsetBehind(int set, int all) {
            return (set - all) & all;
        }

        static int fewestMore(Cases cases, int tree, int bearing, Wishes wishes) {
            int has = bearing & cases.membersOf(tree);
            int rest = cases.membersOf(tree) & ~has;
            int best = NONE;
            int more = 0;
            for (int n = 0; n < SETS; n++) {
                boolean isFewer = best == NONE || Integer.bitCount(more) < Integer.bitCount(best);
                if (isFewer && wishes.allFollow(cases, tree, has | more)) {
                    best = more;
                }
                more = subsetBehind(more, rest);
                if (more == 0) {
                    break;
                }
            }
            return best;
        }

        static int fewestAlike(Cases cases, int tree, int bearing) {
            int has = bearing & cases.membersOf(tree);
            int best = has;
            int some = 0;
            for (int n = 0; n < SETS; n++) {
                if (Integer.bitCount(some) < Integer.bitCount(best) && areAlike(cases, tree, some, has)) {
                    best = some;
                }
                some = subsetBehind(some, has);
                if (some == 0) {
                    break;
                }
            }
            return best;
        }

        private static boolean areAlike(Cases cases, int tree, int set, int other) {
            for (int kase = 0; kase < cases.count; kase++) {
                if (cases.outcome(tree, set, kase) != cases.outcome(tree, other, kase)) {
                    return false;
                }
            }
            return true;
        }

        /**
         * Goes through the sets breadth first, clause by clause: so the way by which a set is first come to is the
         * shortest, and of like ones the first.
         */
        int shortestWay(Orchard laws, int tree, int in, int goal, Lying lying) {
            if (!laws.trees.has(tree) || goal < 0 || goal >= SETS) {
                return NONE;
            }
            int members = laws.members[tree];
            int others = in & ~members;
            startFrom(in & members);
            for (int i = 0; i < found && i < SETS && notes[goal] == UNSEEN; i++) {
                spread(laws, members, others, sets[i]);
            }
            if (notes[goal] == UNSEEN) {
                return NONE;
            }
            layWay(goal, lying);
            return lying.count;
        }

        private void startFrom(int set) {
            Arrays.fill(notes, (short) UNSEEN);
            found = 0;
            note(set, START);
        }

        private void note(int set, int by) {
            if (set >= 0 && set < SETS && found >= 0 && found < SETS && notes[set] == UNSEEN) {
                notes[set] = (short) by;
                sets[found] = (short) set;
                found++;
            }
        }

        private void spread(Orchard laws, int members, int others, int set) {
            int in = set | others;
            for (int clause = 0; clause < CLAUSES; clause++) {
                if ((members >> clause & 1) != 0 && (laws.canBeGrafted(clause, in) || laws.canBePruned(clause, in))) {
                    note(set ^ 1 << clause, clause);
                }
            }
        }

        private void layWay(int goal, Lying lying) {
            int length = 0;
            for (int set = goal; isBehindAnother(set) && length < SETS; set ^= 1 << notes[set]) {
                length++;
            }
            lying.makeRoom(length);
            int i = length - 1;
            for (int set = goal; isBehindAnother(set) && i >= 0; set ^= 1 << notes[set]) {
                lying.write(i, notes[set]);
                i--;
            }
        }

        private boolean isBehindAnother(int set) {
            return set >= 0 && set < SETS && notes[set] != UNSEEN && notes[set] != START;
        }

        int playedOut(Cases cases, int tree, int bearing, int turns) {
            Arrays.fill(notes, (short) UNSEEN);
            return play(cases, tree, bearing & cases.membersOf(tree), turns, true);
        }

        /** The outermost turn is the last to write its choice. */
        private int play(Cases cases, int tree, int set, int turns, boolean wantsMost) {
            if (turns <= 0) {
                return paidByAll(cases, tree, set);
            }
            int rest = cases.membersOf(tree) & ~set;
            int chosen = NONE;
            int best = play(cases, tree, set, turns - 1, !wantsMost);
            for (int clause = 0; clause < CLAUSES; clause++) {
                if ((rest >> clause & 1) != 0) {
                    int paid = play(cases, tree, set | 1 << clause, turns - 1, !wantsMost);
                    boolean isBetter = wantsMost ? paid > best : paid < best;
                    if (isBetter || paid == best && chosen == NONE) {
                        best = paid;
                        chosen = clause;
                    }
                }
            }
            choice = chosen;
            return best;
        }

        private int paidByAll(Cases cases, int tree, int set) {
            if (set < 0 || set >= SETS) {
                return 0;
            }
            if (notes[set] == UNSEEN) {
                notes[set] = (short) cases.paidByAll(tree, set);
            }
            return notes[set];
        }

        void findSets(Cases cases, int tree, Judgements judgements, int known) {
            int members = cases.membersOf(tree);
            int set = 0;
            found = 0;
            for (int n = 0; n < SETS; n++) {
                if (judgements.allFollow(cases, tree, set, known) && found >= 0 && found < SETS) {
                    sets[found] = (short) set;
                    found++;
                }
                set = subsetBehind(set, members);
                if (set == 0) {
                    break;
                }
            }
        }

        int inAll() {
            int all = found > 0 ? SETS - 1 : 0;
            for (int i = 0; i < found && i < SETS; i++) {
                all &= sets[i];
            }
            return all;
        }

        int inSome() {
            int some = 0;
            for (int i = 0; i < found && i < SETS; i++) {
                some |= sets[i];
            }
            return some;
        }

        void findQuestion(Cases cases, int tree) {
            question = NONE;
            left = NONE;
            if (found == 0) {
                return;
            }
            left = SETS + 1;
            int members = cases.membersOf(tree);
            Arrays.fill(notes, (short) UNSEEN);
            for (int kase = 0; kase < cases.count; kase++) {
                int applying = cases.applying(kase) & members;
                if (isNew(applying)) {
                    int most = mostLeft(cases, applying, left);
                    if (most < left) {
                        question = kase;
                        left = most;
                    }
                }
            }
        }

        /** A case to which the same clauses apply as to an earlier one tells no more than that. */
        private boolean isNew(int applying) {
            if (applying < 0 || applying >= SETS || notes[applying] != UNSEEN) {
                return false;
            }
            notes[applying] = 0;
            return true;
        }

        /** Stops at as many as some other case leaves: it is not better then. */
        private int mostLeft(Cases cases, int applying, int enough) {
            Arrays.fill(tally, 0);
            int most = 0;
            for (int i = 0; i < found && i < SETS && most < enough; i++) {
                int row = cases.outcomeOf(sets[i] & applying) - SPLIT;
                if (row >= 0 && row < OUTCOMES) {
                    tally[row]++;
                    most = Math.max(most, tally[row]);
                }
            }
            return most;
        }
    }
}
