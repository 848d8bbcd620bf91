import java.util.ArrayDeque;
import java.util.ArrayList;
import java.util.Arrays;
import java.util.Deque;
import java.util.HashMap;
import java.util.HashSet;
import java.util.List;
import java.util.Map;
import java.util.Set;
import java.util.TreeSet;

/**
 * The document over again, in the slowest and plainest way, with the Java library and exceptions: what GraftedLaws
 * answers is held against it. It shares no code with it.
 */
final class Model {
    static final int NONE = -1;
    static final int SPLIT = -2;

    interface Formula {
        int of(int[] row);
    }

    static final class Clause {
        int tree;
        int verdict;
        boolean set;
        boolean forbids;
        final Set<Integer> over = new HashSet<>();
        final Set<Integer> needs = new HashSet<>();
        final Set<Integer> bars = new HashSet<>();
        Formula formula;
    }

    static final class Laws {
        final List<String> traits = new ArrayList<>();
        final List<Integer> sizes = new ArrayList<>();
        final List<String> trees = new ArrayList<>();
        final List<String> manners = new ArrayList<>();
        final List<String> names = new ArrayList<>();
        final List<Clause> clauses = new ArrayList<>();
        final Map<String, Integer> numbers = new HashMap<>();
        Formula aim;
        int units;
        int links;
    }

    static final class Fault extends Exception {
        private static final long serialVersionUID = 1L;
        final int what;
        final int place;

        Fault(int what, int place) {
            this.what = what;
            this.place = place;
        }
    }

    /** One parse of one text. */
    static final class Parser {
        private static final Set<String> OWN = new HashSet<>(Arrays.asList(("trait tree later narrow clause on says set"
            + " forbids over needs bars if aim bears suckers seed or and not").split(" ")));
        private final List<String> tokens = new ArrayList<>();
        private final List<Integer> places = new ArrayList<>();
        private final Laws laws = new Laws();
        private int at;
        private int unitsHere;

        Parser(String text) {
            int i = 0;
            while (i < text.length()) {
                char c = text.charAt(i);
                if (c == ' ' || c == '\n') {
                    i++;
                    continue;
                }
                String rest = text.substring(i);
                String token = rest.replaceFirst("(?s)^([a-z]+|[0-9]+|[;()<>=+*/%-]|.).*$", "$1");
                boolean good = token.matches("[a-z]{1,8}|[0-9]{1,4}|[;()<>=+*/%-]");
                if (token.matches("[0-9]+") && rest.substring(token.length()).matches("(?s)[a-z].*")) {
                    good = false;
                }
                tokens.add(good ? token : "?");
                places.add(i);
                i += token.length();
            }
            tokens.add("");
            places.add(text.length());
        }

        private String peek() {
            return tokens.get(at);
        }

        private Fault fault(int what) {
            return new Fault(peek().equals("?") ? 1 : what, places.get(at));
        }

        private boolean is(String word) {
            return peek().equals(word);
        }

        private void want(String word) throws Fault {
            if (!is(word)) {
                throw fault(2);
            }
            at++;
        }

        private boolean isName() {
            return peek().matches("[a-z]+") && !OWN.contains(peek());
        }

        private String newName(List<String> sort) throws Fault {
            if (!isName()) {
                throw fault(2);
            }
            if (sort.contains(peek())) {
                throw fault(3);
            }
            return tokens.get(at++);
        }

        private int oldName(List<String> sort) throws Fault {
            if (!isName()) {
                throw fault(2);
            }
            if (!sort.contains(peek())) {
                throw fault(5);
            }
            return sort.indexOf(tokens.get(at++));
        }

        private int number(int least, int most) throws Fault {
            if (!peek().matches("[0-9]+")) {
                throw fault(2);
            }
            int n = Integer.parseInt(peek());
            if (n < least || n > most) {
                throw fault(4);
            }
            at++;
            return n;
        }

        Laws parse() throws Fault {
            while (!is("")) {
                line();
                want(";");
            }
            return laws;
        }

        private void line() throws Fault {
            String word = peek();
            switch (word) {
                case "trait":
                    most(laws.traits.size(), 4);
                    String trait = newName(laws.traits);
                    laws.sizes.add(number(2, 4));
                    laws.traits.add(trait);
                    break;
                case "tree":
                    most(laws.trees.size(), 3);
                    laws.trees.add(newName(laws.trees));
                    laws.manners.add(is("later") || is("narrow") ? tokens.get(at++) : "");
                    break;
                case "clause":
                    most(laws.clauses.size(), 12);
                    clause();
                    break;
                case "aim":
                    most(laws.aim == null ? 0 : 1, 1);
                    laws.aim = formula();
                    break;
                case "bears":
                case "suckers":
                case "seed":
                    most(laws.numbers.containsKey(word) ? 1 : 0, 1);
                    laws.numbers.put(word, number(0, word.equals("seed") ? 999 : 9));
                    break;
                default:
                    throw fault(2);
            }
        }

        private void most(int has, int most) throws Fault {
            if (has >= most) {
                throw fault(2);
            }
            at++;
        }

        private void clause() throws Fault {
            String name = newName(laws.names);
            Clause clause = new Clause();
            want("on");
            clause.tree = oldName(laws.trees);
            want("says");
            clause.verdict = number(0, 99);
            while (!is("if")) {
                mark(clause);
            }
            at++;
            clause.formula = formula();
            laws.names.add(name);
            laws.clauses.add(clause);
        }

        private void mark(Clause clause) throws Fault {
            if (is("set") && !clause.set) {
                clause.set = true;
                at++;
            } else if (is("forbids") && !clause.forbids) {
                clause.forbids = true;
                at++;
            } else if ((is("over") || is("needs") || is("bars")) && laws.links < 30) {
                String sort = tokens.get(at++);
                int other = oldName(laws.names);
                if (sort.equals("over") && laws.clauses.get(other).tree != clause.tree) {
                    at--;
                    throw fault(6);
                }
                laws.links++;
                (sort.equals("over") ? clause.over : sort.equals("needs") ? clause.needs : clause.bars).add(other);
            } else {
                throw fault(2);
            }
        }

        private Formula formula() throws Fault {
            unitsHere = 0;
            return e(0);
        }

        private Formula e(int within) throws Fault {
            Formula left = both(within);
            while (is("or")) {
                at++;
                Formula a = left;
                Formula b = both(within);
                left = row -> truth(a.of(row) != 0 | b.of(row) != 0);
            }
            return left;
        }

        private Formula both(int within) throws Fault {
            Formula left = one(within);
            while (is("and")) {
                at++;
                Formula a = left;
                Formula b = one(within);
                left = row -> truth(a.of(row) != 0 & b.of(row) != 0);
            }
            return left;
        }

        private Formula one(int within) throws Fault {
            if (is("not")) {
                if (within >= 7) {
                    throw fault(2);
                }
                at++;
                Formula a = one(within + 1);
                return row -> truth(a.of(row) == 0);
            }
            Formula a = sum(within);
            if (!is("<") && !is(">") && !is("=")) {
                return a;
            }
            String sign = tokens.get(at++);
            Formula b = sum(within);
            return row -> truth(sign.equals("<") ? a.of(row) < b.of(row)
                : sign.equals(">") ? a.of(row) > b.of(row) : a.of(row) == b.of(row));
        }

        private Formula sum(int within) throws Fault {
            Formula left = term(within);
            while (is("+") || is("-")) {
                boolean plus = tokens.get(at++).equals("+");
                Formula a = left;
                Formula b = term(within);
                left = row -> (int) (plus ? (long) a.of(row) + b.of(row) : (long) a.of(row) - b.of(row));
            }
            return left;
        }

        private Formula term(int within) throws Fault {
            Formula left = unit(within);
            while (is("*") || is("/") || is("%")) {
                String sign = tokens.get(at++);
                Formula a = left;
                Formula b = unit(within);
                left = row -> {
                    long x = a.of(row);
                    long y = b.of(row);
                    if (sign.equals("*")) {
                        return (int) (x * y);
                    }
                    return y == 0 ? 0 : (int) (sign.equals("/") ? x / y : x % y);
                };
            }
            return left;
        }

        private Formula unit(int within) throws Fault {
            boolean number = peek().matches("[0-9]+");
            if (!number && !is("(") && !isName() || unitsHere >= 30 || laws.units >= 120 || is("(") && within >= 7) {
                throw fault(2);
            }
            unitsHere++;
            laws.units++;
            if (number) {
                int n = Integer.parseInt(tokens.get(at++));
                return row -> n;
            }
            if (is("(")) {
                at++;
                Formula inner = e(within + 1);
                want(")");
                return inner;
            }
            int trait = oldName(laws.traits);
            return row -> row[trait];
        }

        private static int truth(boolean b) {
            return b ? 1 : 0;
        }
    }

    static final class State {
        int year;
        int seed;
        boolean[] in = new boolean[12];
        int[] from = new int[12];
        int[] sucker = new int[12];

        State copy() {
            State c = new State();
            c.year = year;
            c.seed = seed;
            c.in = in.clone();
            c.from = from.clone();
            c.sucker = sucker.clone();
            return c;
        }
    }

    private StringBuilder tape = new StringBuilder();
    private Laws laws = new Laws();
    private List<int[]> rows = new ArrayList<>();
    private int fault;
    private int place = NONE;
    private State now = new State();
    private Deque<State> undone = new ArrayDeque<>();
    private Deque<State> done = new ArrayDeque<>();
    private final State[] boxes = new State[3];
    private final List<int[]> wishes = new ArrayList<>();
    private final List<int[]> judgements = new ArrayList<>();
    private List<Integer> lying = new ArrayList<>();
    private int time;
    private final Map<Integer, Set<Integer>> extents = new HashMap<>();
    private final Map<Long, Integer> known = new HashMap<>();

    Model() {
        settle();
    }

    int feed(int a, int b, int c, int d, int e) {
        if (tape.length() > 1580) {
            return NONE;
        }
        for (int n : new int[] {a, b, c, d, e}) {
            for (int i = 3; i >= 0; i--) {
                tape.append((char) (n >>> 8 * i & 255));
            }
        }
        return tape.length();
    }

    int end(int n) {
        if (n < 0 || n > tape.length()) {
            return NONE;
        }
        tape.setLength(n);
        return n;
    }

    int orchard() {
        String text = tape.toString();
        tape = new StringBuilder();
        try {
            laws = new Parser(text).parse();
        } catch (Fault f) {
            fault = f.what;
            place = f.place;
            return NONE;
        }
        fault = 0;
        place = NONE;
        settle();
        return rows.size();
    }

    private void settle() {
        rows = new ArrayList<>();
        rows.add(new int[0]);
        for (int size : laws.sizes) {
            List<int[]> longer = new ArrayList<>();
            for (int[] row : rows) {
                for (int value = 0; value < size; value++) {
                    int[] next = Arrays.copyOf(row, row.length + 1);
                    next[row.length] = value;
                    longer.add(next);
                }
            }
            rows = longer;
        }
        extents.clear();
        known.clear();
        now = new State();
        now.seed = laws.numbers.getOrDefault("seed", 0);
        Arrays.fill(now.sucker, NONE);
        for (int i = 0; i < laws.clauses.size(); i++) {
            now.in[i] = laws.clauses.get(i).set;
        }
        done.clear();
        undone.clear();
        Arrays.fill(boxes, null);
        wishes.clear();
        judgements.clear();
        lying.clear();
    }

    int fault(int what) {
        return what == 0 ? fault : what == 1 ? place : NONE;
    }

    private boolean kase(int k) {
        return k >= 0 && k < rows.size();
    }

    private boolean clause(int c) {
        return c >= 0 && c < laws.clauses.size();
    }

    private boolean tree(int t) {
        return t >= 0 && t < laws.trees.size();
    }

    int trait(int k, int t) {
        return kase(k) && t >= 0 && t < laws.sizes.size() ? rows.get(k)[t] : NONE;
    }

    int clause(int c, int what) {
        if (!clause(c)) {
            return -2;
        }
        switch (what) {
            case 0: return laws.clauses.get(c).tree;
            case 1: return laws.clauses.get(c).verdict;
            case 2: return now.in[c] ? 1 : 0;
            case 3: return bears(c) ? 1 : 0;
            case 4: return now.in[c] ? now.from[c] : NONE;
            case 5: return now.sucker[c];
            default: return -2;
        }
    }

    private boolean bears(int c) {
        return now.in[c] && now.from[c] <= now.year;
    }

    private boolean applying(int c, int k) {
        return laws.clauses.get(c).formula.of(rows.get(k)) != 0;
    }

    int applies(int c, int k) {
        return !clause(c) || !kase(k) ? NONE : applying(c, k) ? 1 : 0;
    }

    private Set<Integer> extent(int c) {
        Set<Integer> had = extents.get(c);
        if (had != null) {
            return had;
        }
        Set<Integer> all = new TreeSet<>();
        for (int k = 0; k < rows.size(); k++) {
            if (applying(c, k)) {
                all.add(k);
            }
        }
        extents.put(c, all);
        return all;
    }

    private boolean isOver(int c, int d) {
        Clause x = laws.clauses.get(c);
        if (c == d || x.tree != laws.clauses.get(d).tree) {
            return false;
        }
        String manner = laws.manners.get(x.tree);
        if (x.over.contains(d) || manner.equals("later") && c > d) {
            return true;
        }
        Set<Integer> mine = extent(c);
        Set<Integer> other = extent(d);
        return manner.equals("narrow") && !mine.isEmpty() && other.containsAll(mine) && !mine.equals(other);
    }

    int over(int c, int d) {
        return !clause(c) || !clause(d) ? NONE : isOver(c, d) ? 1 : 0;
    }

    int wide(int c) {
        return clause(c) ? extent(c).size() : NONE;
    }

    int followed(int t, int set, int k) {
        long key = ((long) t << 40) | ((long) set << 16) | k;
        Integer had = known.get(key);
        if (had == null) {
            had = weigh(t, set, k);
            known.put(key, had);
        }
        return had;
    }

    private int weigh(int t, int set, int k) {
        List<Integer> all = new ArrayList<>();
        for (int c = 0; c < laws.clauses.size(); c++) {
            if (laws.clauses.get(c).tree == t && (set & 1 << c) != 0 && applying(c, k)) {
                all.add(c);
            }
        }
        Set<Integer> said = new HashSet<>();
        for (int c : all) {
            boolean free = true;
            for (int d : all) {
                free &= !isOver(d, c);
            }
            if (free) {
                said.add(laws.clauses.get(c).verdict);
            }
        }
        return said.isEmpty() ? NONE : said.size() > 1 ? SPLIT : said.iterator().next();
    }

    private int bearing() {
        int set = 0;
        for (int c = 0; c < laws.clauses.size(); c++) {
            set |= bears(c) ? 1 << c : 0;
        }
        return set;
    }

    private int of(int t) {
        int set = 0;
        for (int c = 0; c < laws.clauses.size(); c++) {
            set |= laws.clauses.get(c).tree == t ? 1 << c : 0;
        }
        return set;
    }

    int follows(int t, int k) {
        return tree(t) && kase(k) ? followed(t, bearing(), k) : -3;
    }

    private List<Integer> sort(int t, int what) {
        List<Integer> all = new ArrayList<>();
        for (int k = 0; k < rows.size(); k++) {
            int v = followed(t, bearing(), k);
            if (what == 0 && v >= 0 || what == 1 && v == NONE || what == 2 && v == SPLIT) {
                all.add(k);
            }
        }
        return all;
    }

    int many(int t, int what) {
        return tree(t) && what >= 0 && what <= 2 ? sort(t, what).size() : NONE;
    }

    int first(int t, int what) {
        return tree(t) && !sort(t, what).isEmpty() ? sort(t, what).get(0) : NONE;
    }

    private boolean canGraft(int c, boolean[] in) {
        if (in[c]) {
            return false;
        }
        for (int d = 0; d < laws.clauses.size(); d++) {
            Clause other = laws.clauses.get(d);
            if (laws.clauses.get(c).needs.contains(d) && !in[d]
                || other.forbids && in[d] && other.tree == laws.clauses.get(c).tree) {
                return false;
            }
        }
        return true;
    }

    private boolean canPrune(int c, boolean[] in) {
        if (!in[c]) {
            return false;
        }
        for (int d = 0; d < laws.clauses.size(); d++) {
            if (in[d] && laws.clauses.get(d).bars.contains(c)) {
                return false;
            }
        }
        return true;
    }

    int may(int c, int what) {
        if (!clause(c) || what < 0 || what > 1) {
            return NONE;
        }
        return (what == 0 ? canGraft(c, now.in) : canPrune(c, now.in)) ? 1 : 0;
    }

    private void act() {
        done.addLast(now.copy());
        while (done.size() > 40) {
            done.removeFirst();
        }
        undone.clear();
    }

    int graft(int c) {
        if (!clause(c) || !canGraft(c, now.in)) {
            return NONE;
        }
        act();
        now.in[c] = true;
        now.from[c] = now.year + laws.numbers.getOrDefault("bears", 1);
        return now.from[c];
    }

    boolean prune(int c) {
        if (!clause(c) || !canPrune(c, now.in)) {
            return false;
        }
        act();
        now.in[c] = false;
        int suckers = laws.numbers.getOrDefault("suckers", 0);
        now.sucker[c] = suckers == 0 ? NONE : now.year + suckers;
        return true;
    }

    int year() {
        if (now.year == 1000) {
            return NONE;
        }
        act();
        now.year++;
        for (int c = 0; c < 12; c++) {
            if (now.sucker[c] == now.year) {
                now.sucker[c] = NONE;
                if (!now.in[c]) {
                    now.in[c] = true;
                    now.from[c] = now.year;
                }
            }
        }
        return now.year;
    }

    int storm() {
        act();
        now.seed = (137 * now.seed + 71) % 1000;
        List<Integer> all = new ArrayList<>();
        for (int c = 0; c < 12; c++) {
            if (now.in[c]) {
                all.add(c);
            }
        }
        if (all.isEmpty()) {
            return NONE;
        }
        int c = all.get(now.seed % all.size());
        now.in[c] = false;
        now.sucker[c] = NONE;
        return c;
    }

    boolean undo() {
        if (done.isEmpty()) {
            return false;
        }
        undone.addLast(now);
        now = done.removeLast();
        return true;
    }

    boolean redo() {
        if (undone.isEmpty()) {
            return false;
        }
        done.addLast(now);
        now = undone.removeLast();
        return true;
    }

    private int lay(List<Integer> all) {
        lying = new ArrayList<>(all.subList(0, Math.min(40, all.size())));
        return all.size();
    }

    int fruit(int c) {
        lying.clear();
        if (!clause(c)) {
            return NONE;
        }
        List<Integer> all = new ArrayList<>();
        int t = laws.clauses.get(c).tree;
        for (int k = 0; k < rows.size(); k++) {
            if (followed(t, bearing(), k) != followed(t, bearing() ^ 1 << c, k)) {
                all.add(k);
            }
        }
        return lay(all);
    }

    int wish(int k, int v) {
        if (!kase(k) || v < -2 || v > 99 || wishes.size() == 20) {
            return NONE;
        }
        wishes.add(new int[] {k, v});
        return wishes.size();
    }

    int hush() {
        int were = wishes.size();
        wishes.clear();
        return were;
    }

    private List<Integer> byFewest(int all) {
        List<Integer> sets = new ArrayList<>();
        for (int set = 0; set < 4096; set++) {
            if ((set & ~all) == 0) {
                sets.add(set);
            }
        }
        sets.sort((x, y) -> Integer.bitCount(x) != Integer.bitCount(y)
            ? Integer.compare(Integer.bitCount(x), Integer.bitCount(y)) : Integer.compare(x, y));
        return sets;
    }

    int least(int t) {
        if (!tree(t)) {
            return NONE;
        }
        for (int more : byFewest(of(t) & ~bearing())) {
            boolean good = true;
            for (int[] wish : wishes) {
                good &= followed(t, bearing() & of(t) | more, wish[0]) == wish[1];
            }
            if (good) {
                return more;
            }
        }
        return NONE;
    }

    int pith(int t) {
        if (!tree(t)) {
            return NONE;
        }
        for (int set : byFewest(of(t) & bearing())) {
            boolean good = true;
            for (int k = 0; k < rows.size() && good; k++) {
                good = followed(t, set, k) == followed(t, bearing(), k);
            }
            if (good) {
                return set;
            }
        }
        throw new IllegalStateException("no pith");
    }

    int aim(int k) {
        return kase(k) && laws.aim != null ? laws.aim.of(rows.get(k)) : 0;
    }

    private int pays(int t, int set, int k) {
        int v = followed(t, set, k);
        return v < 0 ? 0 : v;
    }

    private long gain(int t, int set, int k) {
        return Math.max(0L, (long) aim(k) - pays(t, set, k));
    }

    int holes(int t, int what) {
        if (!tree(t) || what < 0 || what > 2) {
            return NONE;
        }
        long most = 0;
        int where = NONE;
        int count = 0;
        for (int k = rows.size() - 1; k >= 0; k--) {
            long g = gain(t, bearing(), k);
            if (g > 0) {
                count++;
                if (g >= most) {
                    most = g;
                    where = k;
                }
            }
        }
        return what == 0 ? count : what == 1 ? where : (int) most;
    }

    private long allGains(int t, int set) {
        long all = 0;
        for (int k = 0; k < rows.size(); k++) {
            all += gain(t, set, k);
        }
        return all;
    }

    long gains(int t) {
        return tree(t) ? allGains(t, bearing()) : NONE;
    }

    int mend(int t) {
        if (!tree(t)) {
            return NONE;
        }
        int best = NONE;
        long least = allGains(t, bearing());
        for (int c = 11; c >= 0; c--) {
            if ((of(t) & ~bearing() & 1 << c) != 0) {
                long g = allGains(t, bearing() | 1 << c);
                if (g < least || g == least && best != NONE) {
                    best = c;
                    least = g;
                }
            }
        }
        return best;
    }

    int evade(int t, int k) {
        if (!tree(t) || !kase(k)) {
            return NONE;
        }
        List<int[]> found = new ArrayList<>();
        for (int o = 0; o < rows.size(); o++) {
            if (pays(t, bearing(), o) < pays(t, bearing(), k)) {
                int changed = 0;
                for (int i = 0; i < rows.get(k).length; i++) {
                    changed += rows.get(k)[i] == rows.get(o)[i] ? 0 : 1;
                }
                found.add(new int[] {changed, pays(t, bearing(), o), o});
            }
        }
        found.sort(Arrays::compare);
        return found.isEmpty() ? NONE : found.get(0)[2];
    }

    int unlike(int t, int o) {
        lying.clear();
        if (!tree(t) || !tree(o)) {
            return NONE;
        }
        List<Integer> all = new ArrayList<>();
        for (int k = 0; k < rows.size(); k++) {
            if (followed(t, bearing(), k) != followed(o, bearing(), k)) {
                all.add(k);
            }
        }
        return lay(all);
    }

    private boolean[] with(int t, int set) {
        boolean[] in = now.in.clone();
        for (int c = 0; c < laws.clauses.size(); c++) {
            if (laws.clauses.get(c).tree == t) {
                in[c] = (set & 1 << c) != 0;
            }
        }
        return in;
    }

    /** How far it is from each set to the goal, by going over all sets till nothing changes. */
    int reach(int t, int goal) {
        lying.clear();
        if (!tree(t) || (goal & ~of(t)) != 0) {
            return -2;
        }
        int[] far = new int[4096];
        Arrays.fill(far, Integer.MAX_VALUE);
        far[goal] = 0;
        List<Integer> level = new ArrayList<>();
        level.add(goal);
        for (int d = 1; !level.isEmpty(); d++) {
            List<Integer> next = new ArrayList<>();
            for (int set : level) {
                for (int c = 0; c < 12; c++) {
                    int from = set ^ 1 << c;
                    if ((of(t) & 1 << c) != 0 && far[from] == Integer.MAX_VALUE
                        && (canGraft(c, with(t, from)) || canPrune(c, with(t, from)))) {
                        far[from] = d;
                        next.add(from);
                    }
                }
            }
            level = next;
        }
        int set = 0;
        for (int c = 0; c < 12; c++) {
            set |= now.in[c] && (of(t) & 1 << c) != 0 ? 1 << c : 0;
        }
        if (far[set] == Integer.MAX_VALUE) {
            return NONE;
        }
        int ways = far[set];
        while (set != goal) {
            for (int c = 0; c < 12; c++) {
                int to = set ^ 1 << c;
                if ((of(t) & 1 << c) != 0 && far[to] == far[set] - 1
                    && (canGraft(c, with(t, set)) || canPrune(c, with(t, set)))) {
                    lying.add(c);
                    set = to;
                    break;
                }
            }
        }
        return ways;
    }

    private int[] play(int t, int set, int n, int who) {
        if (n == 0) {
            int all = 0;
            for (int k = 0; k < rows.size(); k++) {
                all += pays(t, set, k);
            }
            return new int[] {all, NONE};
        }
        List<Integer> choices = new ArrayList<>();
        for (int c = 0; c < 12; c++) {
            if ((of(t) & ~set & 1 << c) != 0) {
                choices.add(c);
            }
        }
        choices.add(NONE);
        int[] best = null;
        for (int c : choices) {
            int value = play(t, c == NONE ? set : set | 1 << c, n - 1, 1 - who)[0];
            if (best == null || (who == 0 ? value > best[0] : value < best[0])) {
                best = new int[] {value, c};
            }
        }
        return best;
    }

    int parties(int t, int n, int what) {
        if (!tree(t) || n < 1 || n > 3 || what < 0 || what > 1) {
            return NONE;
        }
        return play(t, bearing() & of(t), n, 0)[what];
    }

    int lies(int i) {
        return i >= 0 && i < lying.size() ? lying.get(i) : NONE;
    }

    int judge(int t, int k, int v) {
        if (!tree(t) || !kase(k) || v < -2 || v > 99 || judgements.size() == 30) {
            return NONE;
        }
        judgements.add(new int[] {t, k, v, time, Integer.MAX_VALUE});
        return judgements.size() - 1;
    }

    boolean untell(int j) {
        if (j < 0 || j >= judgements.size() || judgements.get(j)[4] != Integer.MAX_VALUE) {
            return false;
        }
        judgements.get(j)[4] = time;
        return true;
    }

    int later(int by) {
        if (by < 0 || by > 1000 || time + by > 100000) {
            return NONE;
        }
        return time += by;
    }

    private List<Integer> sets(int t, int known) {
        List<Integer> all = new ArrayList<>();
        for (int set = 0; set < 4096; set++) {
            boolean good = (set & ~of(t)) == 0;
            for (int[] j : judgements) {
                if (good && j[0] == t && j[3] <= known && !(j[4] != Integer.MAX_VALUE && j[4] <= known)) {
                    good = followed(t, set, j[1]) == j[2];
                }
            }
            if (good) {
                all.add(set);
            }
        }
        return all;
    }

    int can(int t, int what, int known) {
        if (!tree(t) || what < 0 || what > 2) {
            return NONE;
        }
        List<Integer> all = sets(t, known);
        int every = all.isEmpty() ? 0 : 4095;
        int some = 0;
        for (int set : all) {
            every &= set;
            some |= set;
        }
        return what == 0 ? all.size() : what == 1 ? every : some;
    }

    int ask(int t, int what, int known) {
        if (!tree(t) || what < 0 || what > 1) {
            return NONE;
        }
        List<Integer> all = sets(t, known);
        int best = NONE;
        int fewest = Integer.MAX_VALUE;
        for (int k = 0; k < rows.size() && !all.isEmpty(); k++) {
            Map<Integer, Integer> left = new HashMap<>();
            int most = 0;
            for (int set : all) {
                most = Math.max(most, left.merge(followed(t, set, k), 1, Integer::sum));
            }
            if (most < fewest) {
                best = k;
                fewest = most;
            }
        }
        return all.isEmpty() ? NONE : what == 0 ? best : fewest;
    }

    int image(int box) {
        if (box < 0 || box > 2) {
            return NONE;
        }
        boxes[box] = now.copy();
        return now.year;
    }

    int back(int box) {
        if (box < 0 || box > 2 || boxes[box] == null) {
            return NONE;
        }
        now = boxes[box].copy();
        done.clear();
        undone.clear();
        return now.year;
    }

    int about(int what) {
        int in = 0;
        for (boolean b : now.in) {
            in += b ? 1 : 0;
        }
        int[] all = {laws.traits.size(), rows.size(), laws.trees.size(), laws.clauses.size(), now.year, now.seed, in,
            done.size(), undone.size(), wishes.size(), judgements.size(), time, tape.length(), laws.units,
            lying.size(), laws.links};
        return what >= 0 && what < all.length ? all[what] : NONE;
    }
}
