/**
 * The bounds of an orchard's text, sentence by sentence of the document's 'Terms': each on both sides. A fault stands
 * where the text has a bar, which is left out of it.
 */
public final class TextBoundsTest {
    private static final Desk DESK = new Desk("TextBoundsTest");
    private static final int NO_TOKEN = 1;
    private static final int CANT_STAND = 2;
    private static final int TOLD_ALREADY = 3;
    private static final int CANT_BE = 4;
    private static final int NO_NAME = 5;
    private static final int OTHER_TREE = 6;
    private static final String SIGNS = ";()<>=+-*/%";
    private static final String[] OWN_WORDS = {"trait", "tree", "later", "narrow", "clause", "on", "says", "set",
        "forbids", "over", "needs", "bars", "if", "aim", "bears", "suckers", "seed", "or", "and", "not"};

    public static void main(String[] args) {
        longestText();
        nothingBehindTheEnd();
        everyByteAlone();
        everyByteBehindANumber();
        everyByteBehindAWord();
        longestWord();
        mostDigits();
        asLongAsCanBe();
        blanksPartThemOrNot();
        noLetterBehindANumber();
        ownWordsAreNoNames();
        otherWordsAreNames();
        mostTraits();
        valuesOfATrait();
        mostTrees();
        manners();
        mostClauses();
        verdicts();
        onATreeToldAhead();
        setAndForbidsOnce();
        ofClausesToldAhead();
        mostLinks();
        overOnTheSameTree();
        eachSortByItself();
        traitsToldAhead();
        aimOnce();
        bearsSuckersSeed();
        unitsInOne();
        unitsInAll();
        within();
        firstByItsPlace();
        atTheEnd();
        atOnePlaceTheLeast();
        grammar();
        DESK.close();
    }

    private static void fault(int what, String text) {
        DESK.fault(what, text);
    }

    private static GraftedLaws good(int cases, String text) {
        return DESK.good(cases, text);
    }

    private static void due(String call, long got, long want) {
        DESK.due(call, got, want);
    }

    private static String blanks(int many) {
        return " ".repeat(many);
    }

    private static boolean isLetter(int b) {
        return b >= 'a' && b <= 'z';
    }

    private static boolean isDigit(int b) {
        return b >= '0' && b <= '9';
    }

    /** An ORCHARD is a text of at most 1,600 bytes (empty at first). */
    private static void longestText() {
        GraftedLaws x = new GraftedLaws();
        due("an empty tape at first", x.about(12), 0);
        due("an empty text", x.orchard(), 1);
        x = good(1, "tree t" + blanks(1593) + ";");
        due("the last of 1,600 bytes is read", x.about(2), 1);
        x = good(1, blanks(1593) + "tree t;");
        due("a line at the end of 1,600 bytes", x.about(2), 1);
        fault(CANT_STAND, "tree t" + blanks(1593) + "|+");
        fault(NO_TOKEN, "tree t;" + blanks(1592) + "|$");
        fault(CANT_STAND, "tree t" + blanks(1594) + "|");
        fault(CANT_STAND, blanks(1594) + "tree t|");
        fault(NO_TOKEN, "tree " + blanks(1586) + "|abcdefghi");
        fault(CANT_STAND, "tree " + blanks(1587) + "abcdefgh|");
        fault(NO_TOKEN, "aim " + blanks(1591) + "|12345");
        fault(CANT_STAND, "aim " + blanks(1592) + "1234|");
        x = new GraftedLaws();
        Desk.feed(x, blanks(1600));
        due("1,600 bytes", x.about(12), 1600);
        due("no byte more", x.feed(0, 0, 0, 0, 0), -1);
        due("they are an orchard", x.orchard(), 1);
    }

    /** Promise 3: the TAPE has its first n bytes: what was behind them is part of no TOKEN. */
    private static void nothingBehindTheEnd() {
        cutOff("aim 1", "or 1;", CANT_STAND, 5);
        cutOff("aim 1", "234567;", CANT_STAND, 5);
        cutOff("tree abcdefgh", "ijk;", CANT_STAND, 13);
        cutOff("tree t", ";", CANT_STAND, 6);
        cutOff("aim ", "1;", CANT_STAND, 4);
        cutOff("tre", "e t;", CANT_STAND, 0);
        cutOff("tree t;", "$", 0, -1);
        cutOff("", "$", 0, -1);
        cutOff("tree t;" + blanks(1573), "tree u;", 0, -1);
    }

    private static void cutOff(String kept, String rest, int what, int place) {
        GraftedLaws x = new GraftedLaws();
        Desk.feed(x, kept + rest);
        due("end", x.end(kept.length()), kept.length());
        due("orchard of " + kept, x.orchard(), what == 0 ? 1 : -1);
        due("its fault, without " + rest, x.fault(0), what);
        due("its place", x.fault(1), place);
    }

    /** Signs ; ( ) < > = + - * / %; blanks (32, 10); what is none of these: no TOKEN. */
    private static void everyByteAlone() {
        for (int b = 0; b < 256; b++) {
            String one = String.valueOf((char) b);
            if (b == 32 || b == 10) {
                good(1, one);
            } else if (b == '|') {
                GraftedLaws x = new GraftedLaws();
                Desk.feed(x, one);
                due("a bar", x.orchard(), -1);
                due("a bar is no token", x.fault(0), NO_TOKEN);
            } else {
                boolean isToken = isLetter(b) || isDigit(b) || SIGNS.indexOf(b) >= 0;
                fault(isToken ? CANT_STAND : NO_TOKEN, "|" + one);
            }
        }
    }

    private static void everyByteBehindANumber() {
        for (int b = 0; b < 256; b++) {
            char c = (char) b;
            if (isDigit(b)) {
                GraftedLaws x = good(1, "aim 1" + c + ";");
                due("both digits", x.aim(0), 10 + b - '0');
            } else if (b == 32 || b == 10) {
                good(1, "aim 1" + c + ";");
            } else if (isLetter(b)) {
                fault(NO_TOKEN, "aim |1" + c + ";");
            } else if (c == ';' || "<>=+-*/%".indexOf(c) >= 0) {
                fault(CANT_STAND, "aim 1" + c + "|;");
            } else if (c == '(' || c == ')') {
                fault(CANT_STAND, "aim 1|" + c + ";");
            } else if (b != '|') {
                fault(NO_TOKEN, "aim 1|" + c + ";");
            }
        }
    }

    private static void everyByteBehindAWord() {
        for (int b = 0; b < 256; b++) {
            char c = (char) b;
            if (isLetter(b) || b == 32 || b == 10) {
                good(1, "tree t" + c + ";");
            } else if (c == ';') {
                fault(CANT_STAND, "tree t;|;");
            } else if (isDigit(b) || SIGNS.indexOf(c) >= 0) {
                fault(CANT_STAND, "tree t|" + c + ";");
            } else if (b != '|') {
                fault(NO_TOKEN, "tree t|" + c + ";");
            }
        }
    }

    /** Words (a .. z, 8 at most); a longer word: no TOKEN, at its first byte. */
    private static void longestWord() {
        good(2, "trait abcdefgh 2;");
        fault(NO_TOKEN, "trait |abcdefghi 2;");
        good(1, "tree azazazaz;clause zazazaza on azazazaz says 1 if 1;");
        fault(NO_TOKEN, "tree azazazaz;clause |zazazazaz on azazazaz says 1 if 1;");
        fault(NO_TOKEN, "tree azazazaz;clause z on |azazazaza says 1 if 1;");
        fault(NO_TOKEN, "tree t;clause z on t says 1 |forbidsss if 1;");
        fault(CANT_STAND, "tree t;clause z on t says 1 |forbidss if 1;");
        fault(NO_TOKEN, "|traittrai a 2;");
        fault(CANT_STAND, "|traittra a 2;");
        fault(NO_TOKEN, "aim |abcdefghijklmnopqrstuvwxyz;");
        GraftedLaws x = good(8, "trait abcdefgh 2;trait bbcdefgh 2;trait abcdefgg 2;aim abcdefgg*4+bbcdefgh*2+abcdefgh;");
        due("the first letter counts", x.aim(2), 2);
        due("the last letter counts", x.aim(1), 4);
        due("the first name", x.aim(4), 1);
        fault(TOLD_ALREADY, "trait abcdefgh 2;trait |abcdefgh 2;");
        good(4, "trait a 2;trait aa 2;");
    }

    /** N (1 to 4 digits); more digits: no TOKEN, at its first byte. */
    private static void mostDigits() {
        due("four digits", good(1, "aim 9999;").aim(0), 9999);
        due("zeros ahead", good(1, "aim 0007;").aim(0), 7);
        due("zeros", good(1, "aim 0000;").aim(0), 0);
        due("one digit", good(1, "aim 9;").aim(0), 9);
        fault(NO_TOKEN, "aim |10000;");
        fault(NO_TOKEN, "aim |00000;");
        fault(NO_TOKEN, "aim 1+|99999999999999999999;");
        fault(NO_TOKEN, "aim |4294967297;");
        good(2, "trait a 0002;");
        fault(NO_TOKEN, "trait a |00002;");
        fault(CANT_STAND, "trait a|;");
    }

    /** Each is as long as can be. */
    private static void asLongAsCanBe() {
        fault(CANT_STAND, "|treet;");
        fault(CANT_STAND, "|traita 2;");
        good(1, "tree tlater;");
        good(1, "tree t later;");
        fault(CANT_STAND, "tree t |laternar;");
        fault(CANT_STAND, "|aimnot 1;");
        fault(NO_NAME, "aim |nota;");
        fault(CANT_STAND, "aim 1 |andnot 1;");
        due("a number of four digits, not two of two", good(1, "aim 1234;").aim(0), 1234);
        fault(CANT_STAND, "aim 12 |34;");
        fault(CANT_STAND, "aim 1234 |5;");
    }

    /** Blanks (32, 10) part them or not. */
    private static void blanksPartThemOrNot() {
        GraftedLaws x = good(2, "trait a2;tree t;clause p on t says1 set if(a=1)or not(a<2);aim(a+1)*2;bears0;suckers9;seed999;");
        due("its aim", x.aim(1), 4);
        due("its clause", x.wide(0), 1);
        due("its seed", x.about(5), 999);
        due("a number behind a word", good(1, "aim1;").aim(0), 1);
        due("not and a number", good(1, "aim not0;").aim(0), 1);
        due("between any two", good(1, "\n aim\n(\n1 + \n 1\n)\n\n*\n2 ;\n").aim(0), 4);
        fault(CANT_STAND, "|tr ait a 2;");
        fault(CANT_STAND, "aim 1 |2;");
    }

    /** No letter directly behind an N (a number with a letter behind it: no TOKEN, at its first byte). */
    private static void noLetterBehindANumber() {
        fault(NO_TOKEN, "aim |1or 1;");
        fault(NO_TOKEN, "aim |1and 1;");
        good(1, "aim 1 or 1;");
        good(1, "aim 1\nor 1;");
        good(1, "aim(1)or 1;");
        fault(NO_TOKEN, "tree t;clause p on t says |1set if 1;");
        fault(NO_TOKEN, "tree t;clause p on t says |100if 1;");
        fault(NO_TOKEN, "trait a |5b;");
        fault(NO_TOKEN, "aim |12345z;");
        fault(NO_TOKEN, "aim |1234a;");
        fault(NO_TOKEN, "seed |9z;");
    }

    /** Words that stand for themselves here are no NAMES. */
    private static void ownWordsAreNoNames() {
        String two = "tree t;clause a on t says 1 if 1;clause b on t says 1 ";
        for (String word : OWN_WORDS) {
            fault(CANT_STAND, "trait |" + word + " 2;");
            fault(CANT_STAND, "tree |" + word + ";");
            fault(CANT_STAND, "tree t;clause |" + word + " on t says 1 if 1;");
            fault(CANT_STAND, "tree t;clause a on |" + word + " says 1 if 1;");
            fault(CANT_STAND, two + "over |" + word + " if 1;");
            fault(CANT_STAND, two + "needs |" + word + " if 1;");
            fault(CANT_STAND, two + "bars |" + word + " if 1;");
            fault(CANT_STAND, "aim 1+|" + word + ";");
            fault(CANT_STAND, "aim 1<|" + word + ";");
            fault(CANT_STAND, "aim 1*|" + word + ";");
            if (!word.equals("not")) {
                fault(CANT_STAND, "aim |" + word + ";");
                fault(CANT_STAND, "aim not |" + word + ";");
                fault(CANT_STAND, "aim 1 and |" + word + ";");
                fault(CANT_STAND, "aim (|" + word + ";");
            }
        }
    }

    private static void isName(String word) {
        GraftedLaws x = good(2, "trait " + word + " 2;tree " + word + ";clause " + word + " on " + word + " says 1 if "
            + word + ";clause b on " + word + " says 1 over " + word + " needs " + word + " bars " + word + " if 1;");
        due(word + " as a trait", x.applies(0, 1), 1);
        due(word + " as a clause", x.over(1, 0), 1);
    }

    private static void otherWordsAreNames() {
        for (String word : new String[] {"e", "n", "name", "line", "both", "one", "sum", "term", "unit", "orchard",
            "graft", "prune", "year", "storm", "none", "split", "case", "wish", "a", "z", "aa"}) {
            isName(word);
        }
        for (String word : OWN_WORDS) {
            isName(word.length() < 8 ? word + "x" : word.substring(1));
            isName("x" + word.substring(1));
            isName(word.substring(0, word.length() - 1) + "z");
        }
    }

    /** At most 4 TRAITS; one of a sort too many: at the line's first word. */
    private static void mostTraits() {
        String four = "trait a 4;trait b 4;trait c 4;trait d 4;";
        GraftedLaws x = good(256, four);
        due("four", x.about(0), 4);
        fault(CANT_STAND, four + "|trait e 2;");
        fault(CANT_STAND, four + "|trait a 2;");
        fault(CANT_STAND, four + "|trait e 5;");
        fault(CANT_STAND, four + "|trait 2;");
        fault(CANT_STAND, four + "|trait $");
        fault(CANT_STAND, four + "|trait");
        good(256, four + "tree e;");
    }

    /** Values 0 .. N - 1; N 2 .. 4. */
    private static void valuesOfATrait() {
        fault(CANT_BE, "trait a |0;");
        fault(CANT_BE, "trait a |1;");
        for (int n = 2; n <= 4; n++) {
            GraftedLaws x = good(n, "trait a " + n + ";");
            due("the least value", x.trait(0, 0), 0);
            due("the greatest value", x.trait(n - 1, 0), n - 1);
            due("no other", x.trait(n, 0), -1);
        }
        fault(CANT_BE, "trait a |5;");
        fault(CANT_BE, "trait a |12;");
        fault(CANT_BE, "trait a |9999;");
        fault(CANT_STAND, "trait a |-2;");
    }

    /** 3 TREES. */
    private static void mostTrees() {
        String three = "tree t;tree u later;tree v narrow;";
        GraftedLaws x = good(1, three);
        due("three", x.about(2), 3);
        fault(CANT_STAND, three + "|tree w;");
        fault(CANT_STAND, three + "|tree t;");
        fault(CANT_STAND, three + "|tree 7");
        fault(TOLD_ALREADY, "tree t;tree |t;");
    }

    /** Tree NAME [later | narrow] ;. */
    private static void manners() {
        good(1, "tree t;tree u later;tree v narrow;");
        fault(CANT_STAND, "tree t later |later;");
        fault(CANT_STAND, "tree t later |narrow;");
        fault(CANT_STAND, "tree t narrow |later;");
        fault(CANT_STAND, "tree t narrow |narrow;");
        fault(CANT_STAND, "tree t |set;");
        fault(CANT_STAND, "tree t |u;");
        fault(CANT_STAND, "tree |later;");
    }

    private static String clauses(int many) {
        StringBuilder text = new StringBuilder("tree t;");
        for (int n = 0; n < many; n++) {
            text.append("clause c").append((char) ('a' + n)).append(" on t says ").append(n).append(" if 1;");
        }
        return text.toString();
    }

    /** 12 CLAUSES. */
    private static void mostClauses() {
        GraftedLaws x = good(1, clauses(12));
        due("twelve", x.about(3), 12);
        due("the last of them", x.clause(11, 1), 11);
        due("no other", x.clause(12, 1), -2);
        fault(CANT_STAND, clauses(12) + "|clause z on t says 1 if 1;");
        fault(CANT_STAND, clauses(12) + "|clause ca on t says 1 if 1;");
        fault(CANT_STAND, clauses(12) + "|clause");
        fault(TOLD_ALREADY, clauses(11) + "clause |ca on t says 1 if 1;");
        fault(TOLD_ALREADY, clauses(11) + "clause |ck on t says 1 if 1;");
    }

    /** VERDICT 0 .. 99. */
    private static void verdicts() {
        due("0", good(1, "tree t;clause p on t says 0 if 1;").clause(0, 1), 0);
        due("99", good(1, "tree t;clause p on t says 99 if 1;").clause(0, 1), 99);
        fault(CANT_BE, "tree t;clause p on t says |100 if 1;");
        fault(CANT_BE, "tree t;clause p on t says |9999 if 1;");
        fault(CANT_STAND, "tree t;clause p on t says |-1 if 1;");
    }

    /** CLAUSES (on a TREE told ahead). */
    private static void onATreeToldAhead() {
        good(1, "tree t;clause p on t says 1 if 1;");
        fault(NO_NAME, "clause p on |t says 1 if 1;tree t;");
        fault(NO_NAME, "tree t;clause p on |u says 1 if 1;tree u;");
        fault(NO_NAME, "trait t 2;clause p on |t says 1 if 1;");
        fault(NO_NAME, "tree t;clause p on t says 1 if 1;clause q on |p says 1 if 1;");
    }

    /** Set, forbids once each; a second time: at the set, forbids. */
    private static void setAndForbidsOnce() {
        String line = "tree t;clause p on t says 1 ";
        good(1, line + "set forbids if 1;");
        good(1, line + "forbids set if 1;");
        fault(CANT_STAND, line + "set |set if 1;");
        fault(CANT_STAND, line + "set forbids |set if 1;");
        fault(CANT_STAND, line + "forbids |forbids if 1;");
        fault(CANT_STAND, line + "forbids set |forbids if 1;");
        GraftedLaws x = good(1, line + "set forbids if 1;clause q on t says 1 set forbids if 1;clause r on t says 1 needs p set if 1;");
        due("each clause has its own", x.about(6), 3);
        fault(CANT_STAND, line + "if 1;clause q on t says 1 set needs p |set if 1;");
    }

    /** Over, needs, bars: of CLAUSES told ahead. */
    private static void ofClausesToldAhead() {
        for (String sort : new String[] {"over", "needs", "bars"}) {
            String line = "tree t;clause p on t says 1 if 1;clause q on t says 1 " + sort;
            good(1, line + " p if 1;");
            fault(NO_NAME, line + " |q if 1;");
            fault(NO_NAME, line + " |r if 1;clause r on t says 1 if 1;");
            fault(NO_NAME, line + " |t if 1;");
            fault(CANT_STAND, line + " p |p if 1;");
            fault(CANT_STAND, line + " |7 if 1;");
            GraftedLaws x = good(1, line + " p " + sort + " p if 1;");
            due("the same twice counts twice", x.about(15), 2);
        }
    }

    /** 30 of these in all; a 31st over, needs, bars: there. */
    private static void mostLinks() {
        String[] sorts = {"over", "needs", "bars"};
        for (String sort : sorts) {
            String all = (sort + " p ").repeat(30);
            String line = "tree t;clause p on t says 1 if 1;clause q on t says 1 " + all;
            due("thirty", good(1, line + "if 1;").about(15), 30);
            due("set behind them", good(1, line + "set forbids if 1;").about(6), 1);
            for (String other : sorts) {
                fault(CANT_STAND, line + "|" + other + " p if 1;");
                fault(CANT_STAND, line + "|" + other + " nobody if 1;");
                fault(CANT_STAND, line + "if 1;clause r on t says 1 |" + other + " p if 1;");
            }
        }
        String mixed = "over p needs p bars p ".repeat(5);
        String line = "tree t;clause p on t says 1 if 1;clause q on t says 1 " + mixed + "if 1;clause r on t says 1 " + mixed;
        due("of all sorts, of two clauses", good(1, line + "if 1;").about(15), 30);
        fault(CANT_STAND, line + "|bars q if 1;");
    }

    /** Over one of the same TREE; 6 over one of another TREE (at its NAME). */
    private static void overOnTheSameTree() {
        String line = "tree t;tree u;clause p on t says 1 if 1;clause q on u says 1 if 1;clause r on u says 1 ";
        good(1, line + "over q if 1;");
        fault(OTHER_TREE, line + "over |p if 1;");
        fault(OTHER_TREE, line + "over q over |p if 1;");
        fault(NO_NAME, line + "over |r if 1;");
        good(1, line + "needs p if 1;");
        good(1, line + "bars p if 1;");
    }

    /** Numbered as told, each sort by itself; a NAME told already (of its sort). */
    private static void eachSortByItself() {
        GraftedLaws x = good(6, "tree a;clause a on a says 5 if 1;trait a 2;tree b;clause b on b says 6 if a;trait b 3;clause c on a says 7 if b;");
        due("the trait told last", x.trait(2, 1), 2);
        due("the clause told last", x.clause(2, 1), 7);
        due("its tree", x.clause(2, 0), 0);
        due("the tree told last", x.clause(1, 0), 1);
        fault(TOLD_ALREADY, "trait a 2;tree a;trait |a 3;");
        fault(TOLD_ALREADY, "tree a;trait a 2;tree |a later;");
        fault(TOLD_ALREADY, "tree a;clause a on a says 1 if 1;clause |a on a says 1 if 1;");
        good(1, "tree a;clause a on a says 1 if 1;clause b on a says 1 if 1;");
    }

    /** NAMES in e are of TRAITS told ahead. */
    private static void traitsToldAhead() {
        good(2, "trait a 2;aim a;");
        fault(NO_NAME, "aim |a;trait a 2;");
        fault(NO_NAME, "trait a 2;tree t;clause p on t says 1 if a=|b;trait b 2;");
        fault(NO_NAME, "tree t;aim |t;");
        fault(NO_NAME, "tree t;clause p on t says 1 if |p;");
        GraftedLaws x = good(4, "trait a 2;aim a+5;trait b 2;");
        due("a trait told behind changes nothing", x.aim(1), 5);
        due("that which was told ahead", x.aim(2), 6);
    }

    /** Aim once; a second time: at the line's first word. */
    private static void aimOnce() {
        good(1, "aim 1;");
        fault(CANT_STAND, "aim 1;|aim 1;");
        fault(CANT_STAND, "aim 1;tree t;|aim");
        fault(CANT_STAND, "aim 0;|aim $");
        fault(CANT_STAND, "aim 0;|aim nobody;");
    }

    private static void once(String word, int most, int standing) {
        good(1, word + " 0;");
        good(1, word + " " + most + ";");
        fault(CANT_BE, word + " |" + (most + 1) + ";");
        fault(CANT_BE, word + " |9999;");
        fault(CANT_STAND, word + " |-1;");
        fault(CANT_STAND, word + "|;");
        fault(CANT_STAND, word + " 0;|" + word + " 0;");
        fault(CANT_STAND, word + " " + standing + ";tree t;|" + word + " " + (most + 1) + ";");
        fault(CANT_STAND, word + " 1;|" + word);
    }

    /** Bears (0 .. 9; 1), suckers (0 .. 9; 0), seed (0 .. 999; 0) once each. */
    private static void bearsSuckersSeed() {
        once("bears", 9, 1);
        once("suckers", 9, 0);
        once("seed", 999, 0);
        good(1, "bears 1;suckers 1;seed 1;aim 1;");
        String clause = "tree t;clause p on t says 1 set if 1;clause q on t says 1 if 1;";
        GraftedLaws x = good(1, clause);
        due("bears 1, if it is not told", x.graft(1), 1);
        x.prune(0);
        due("suckers 0, if it is not told", x.clause(0, 5), -1);
        due("seed 0, if it is not told", x.about(5), 0);
        x = good(1, clause + "bears 9;suckers 9;seed 999;");
        due("bears 9", x.graft(1), 9);
        x.prune(0);
        due("suckers 9", x.clause(0, 5), 9);
        due("seed 999", x.about(5), 999);
        x = good(1, "bears 0;suckers 0;seed 0;" + clause);
        due("bears 0", x.graft(1), 0);
        x.prune(0);
        due("suckers 0", x.clause(0, 5), -1);
        due("seed 0", x.about(5), 0);
    }

    private static String sum(int units) {
        return "1" + "+1".repeat(units - 1);
    }

    /** 30 in one e; a unit too many: at its first TOKEN. */
    private static void unitsInOne() {
        GraftedLaws x = good(1, "aim " + sum(30) + ";");
        due("thirty", x.about(13), 30);
        due("all count", x.aim(0), 30);
        fault(CANT_STAND, "aim " + sum(30) + "+|1;");
        fault(CANT_STAND, "aim " + sum(30) + "*|1;");
        fault(CANT_STAND, "aim " + sum(30) + "<|1;");
        fault(CANT_STAND, "aim " + sum(30) + " and |1;");
        fault(CANT_STAND, "aim " + sum(30) + " or not |1;");
        fault(CANT_STAND, "trait a 2;aim " + sum(30) + "+|a;");
        fault(CANT_STAND, "aim " + sum(30) + "+|(1);");
        due("( e ) is a unit, too", good(1, "aim " + sum(28) + "+(1);").about(13), 30);
        fault(CANT_STAND, "aim " + sum(29) + "+(|1);");
        fault(CANT_STAND, "aim (" + sum(29) + ")+|1;");
        fault(CANT_STAND, "aim (" + sum(29) + "+|1);");
        x = good(1, "aim (" + sum(29) + ");");
        due("in brackets", x.about(13), 30);
        due("not is none", good(1, "aim not " + sum(30) + ";").about(13), 30);
        fault(CANT_STAND, "tree t;clause p on t says 1 if " + sum(30) + "+|1;");
        due("in one e, not in two", good(1, "tree t;clause p on t says 1 if " + sum(30) + ";aim " + sum(30) + ";").about(13), 60);
    }

    private static String fourOf30() {
        StringBuilder text = new StringBuilder("trait a 2;tree t;");
        for (char c = 'p'; c <= 's'; c++) {
            text.append("clause ").append(c).append(" on t says 1 if ").append(sum(30)).append(";");
        }
        return text.toString();
    }

    /** 120 units in all. */
    private static void unitsInAll() {
        GraftedLaws x = good(2, fourOf30());
        due("120", x.about(13), 120);
        due("the last e", x.wide(3), 2);
        fault(CANT_STAND, fourOf30() + "aim |1;");
        fault(CANT_STAND, fourOf30() + "aim |a;");
        fault(CANT_STAND, fourOf30() + "aim |(1);");
        fault(CANT_STAND, fourOf30() + "aim not not |1;");
        fault(CANT_STAND, fourOf30() + "clause z on t says 1 if |1;");
        String less = fourOf30().substring(0, fourOf30().length() - 3) + ";";
        x = good(2, less + "aim 7;");
        due("120 with the aim", x.about(13), 120);
        due("the aim", x.aim(0), 7);
        fault(CANT_STAND, less + "aim 7+|1;");
        fault(CANT_STAND, less + "aim (|7);");
        String aimFirst = "aim " + sum(30) + ";" + fourOf30();
        int last = aimFirst.indexOf("clause s");
        fault(CANT_STAND, aimFirst.substring(0, last) + "clause s on t says 1 if |" + sum(30) + ";");
    }

    /**
     * A unit ( e ), or a one behind not, within 6 others at most; what is within 7 others: at its first TOKEN, or the
     * not. All rows of seven and of eight of these.
     */
    private static void within() {
        for (int row = 0; row < 128; row++) {
            good(1, "aim " + opened(row, 7) + "1" + closed(row, 7) + ";");
            good(2, "trait a 2;aim " + opened(row, 7) + "a+1*2<a" + closed(row, 7) + ";");
            fault(CANT_STAND, "aim " + opened(row, 7) + "|(1)" + closed(row, 7) + ";");
            fault(CANT_STAND, "aim " + opened(row, 7) + "1+|(1)" + closed(row, 7) + ";");
            fault(CANT_STAND, "aim " + opened(row, 7) + "|not 1" + closed(row, 7) + ";");
            fault(CANT_STAND, "aim " + opened(row, 7) + "|not $");
        }
        good(1, "aim (((((((1)))))))+(((((((1)))))))*(1) and (1);");
        good(1, "aim not not not not not not not 1 and not not not not not not not 1 or not (1);");
        good(1, "aim ((((((1)+(1))+(1))+(1))+(1))+(1))+(1);");
    }

    private static String opened(int row, int many) {
        StringBuilder text = new StringBuilder();
        for (int i = 0; i < many; i++) {
            text.append((row >> i & 1) == 0 ? "(" : "not ");
        }
        return text.toString();
    }

    private static String closed(int row, int many) {
        return ")".repeat(many - Integer.bitCount(row));
    }

    /** FAULTS, the first by its place (bytes from 0). */
    private static void firstByItsPlace() {
        fault(NO_TOKEN, "|$trait a 1;");
        fault(CANT_BE, "trait a |1;trait a 2;$");
        fault(TOLD_ALREADY, "trait a 2;trait |a $;");
        fault(NO_NAME, "tree t;clause p on |u says 100 if $;");
        fault(CANT_BE, "tree t;clause p on t says |100 if $;");
        fault(OTHER_TREE, "tree t;tree u;clause p on t says 1 if 1;clause q on u says 1 over |p set set;");
        fault(CANT_STAND, "trait a 2 |trait a 9;$");
        fault(CANT_STAND, "tree t|(12345 tree");
        fault(NO_NAME, "aim |b$");
        fault(CANT_STAND, "aim 1;|aim $;");
    }

    /** The end: the text's length. */
    private static void atTheEnd() {
        for (String text : new String[] {"trait", "trait a", "trait a 2", "tree", "tree t", "tree t later", "aim", "aim 1",
            "aim 1+", "aim not", "aim (", "aim (1", "aim 1<", "aim 1 and", "aim 1 or", "bears", "bears 1", "seed", "suckers 3",
            "tree t;clause", "tree t;clause p", "tree t;clause p on", "tree t;clause p on t", "tree t;clause p on t says",
            "tree t;clause p on t says 1", "tree t;clause p on t says 1 set", "tree t;clause p on t says 1 if",
            "tree t;clause p on t says 1 over", "tree t;clause p on t says 1 if 1"}) {
            fault(CANT_STAND, text + "|");
            fault(CANT_STAND, text + " |");
            fault(CANT_STAND, text + " \n  |");
        }
        good(1, "tree t;");
        good(1, "tree t;  \n ");
    }

    /** At one place the least. */
    private static void atOnePlaceTheLeast() {
        String four = "trait a 2;trait b 2;trait c 2;trait d 2;";
        fault(CANT_STAND, four + "|trait a 9;");
        fault(CANT_STAND, "aim " + sum(30) + "+|nobody;");
        fault(NO_TOKEN, "aim " + sum(30) + "+|$;");
        fault(NO_TOKEN, "aim " + sum(30) + "+|12345;");
        fault(NO_TOKEN, "aim (((((((|$");
        fault(NO_TOKEN, "trait a |1b;");
        fault(NO_TOKEN, "trait |$");
        fault(NO_TOKEN, "tree t;clause p on |Q");
        fault(NO_TOKEN, "tree t;clause p on t says |10000 if 1;");
        fault(NO_TOKEN, "tree t;clause p on t says 1 set|$");
        fault(NO_TOKEN, "tree t;clause p on t says 1 over |abcdefghi if 1;");
        fault(NO_TOKEN, "aim 1|!");
        fault(NO_TOKEN, "aim (1|]");
        fault(NO_TOKEN, "tree t;|&");
        fault(CANT_STAND, "tree t;tree u;tree v;|tree later;");
    }

    /** What the lines and e are made of, each with the first TOKEN that can't stand there. */
    private static void grammar() {
        fault(CANT_STAND, "|;");
        fault(CANT_STAND, "|a;");
        fault(CANT_STAND, "|1;");
        fault(CANT_STAND, "tree t;|;");
        fault(CANT_STAND, "trait a 2;|2;");
        fault(CANT_STAND, "tree t;clause p |t says 1 if 1;");
        fault(CANT_STAND, "tree t;clause p on t |if 1;");
        fault(CANT_STAND, "tree t;clause p on t says 1 |1;");
        fault(CANT_STAND, "tree t;clause p on t says 1|;");
        fault(CANT_STAND, "tree t;clause p on t says 1 if|;");
        fault(CANT_STAND, "tree t;clause p on t says 1 if 1 |if 1;");
        fault(CANT_STAND, "aim 1<2|<3;");
        fault(CANT_STAND, "aim 1=2|>3;");
        fault(CANT_STAND, "aim 1=|=2;");
        fault(CANT_STAND, "aim |-1;");
        fault(CANT_STAND, "aim 1*|-1;");
        fault(CANT_STAND, "aim 1+|not 1;");
        fault(CANT_STAND, "aim 1=|not 1;");
        fault(CANT_STAND, "aim |and 1;");
        fault(CANT_STAND, "aim 1 and |or 1;");
        fault(CANT_STAND, "aim (|);");
        fault(CANT_STAND, "aim (1|;");
        fault(CANT_STAND, "aim 1|);");
        fault(CANT_STAND, "aim 1 |not 1;");
        good(1, "aim (1<2)<3;");
        good(1, "aim 1+(not 1);");
        good(1, "aim not not 1=1 and not 1 or 1;");
    }
}
