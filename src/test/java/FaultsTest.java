/** Texts that are no orchard, each with its fault and the place where it stands; and some that only just are. */
public final class FaultsTest {
    private static final Desk DESK = new Desk("FaultsTest");
    private static final int NO_TOKEN = 1;
    private static final int CANT_STAND = 2;
    private static final int TOLD_ALREADY = 3;
    private static final int CANT_BE = 4;
    private static final int NO_NAME = 5;
    private static final int OTHER_TREE = 6;

    public static void main(String[] args) {
        tokens();
        lines();
        clauses();
        manyClauses();
        formulas();
        units();
        depth();
        order();
        DESK.close();
    }

    private static void fault(int what, String text) {
        DESK.fault(what, text);
    }

    private static void good(int cases, String text) {
        DESK.good(cases, text);
    }

    private static void tokens() {
        good(1, "");
        good(1, " \n ");
        good(2, "\ntrait\na\n2\n;");
        good(2, "trait a2;tree t later;");
        good(2, "trait abcdefgh 0002;");
        good(1, "bears 0009;suckers 9;seed 999;aim 9999;");
        fault(NO_TOKEN, "|\t");
        fault(NO_TOKEN, "|\0");
        fault(NO_TOKEN, "|T");
        fault(NO_TOKEN, "|_");
        fault(NO_TOKEN, "trait a 2;|\r");
        fault(NO_TOKEN, "tree |abcdefghi;");
        fault(NO_TOKEN, "trait a |00002;");
        fault(NO_TOKEN, "trait a |2b;");
        fault(NO_TOKEN, "trait a |12345b");
        fault(NO_TOKEN, "|1a");
        fault(CANT_STAND, "|1A");
        fault(NO_TOKEN, "trait a 2|A;");
        fault(NO_TOKEN, "tree t|\u00e9;");
        fault(NO_TOKEN, "tree t|,");
        fault(CANT_STAND, "aim 1<|=2;");
        fault(CANT_STAND, "|traita 2;");
    }

    private static void lines() {
        fault(CANT_STAND, "|;");
        fault(CANT_STAND, "tree t;|;");
        fault(CANT_STAND, "trait|");
        fault(CANT_STAND, "trait a   |");
        fault(CANT_STAND, "trait a 2|");
        fault(CANT_STAND, "trait |2;");
        fault(CANT_STAND, "trait a |b;");
        fault(CANT_STAND, "trait a 2 |3;");
        fault(CANT_STAND, "trait a 2|)");
        fault(CANT_BE, "trait a |0;");
        fault(CANT_BE, "trait a |1;");
        fault(CANT_BE, "trait a |5;");
        fault(CANT_BE, "trait a |9999;");
        fault(TOLD_ALREADY, "trait a 2;trait |a 2;");
        fault(CANT_STAND, "trait a 2;trait b 2;trait c 2;trait d 2;|trait e 2;");
        fault(CANT_STAND, "trait a 2;trait b 2;trait c 2;trait d 2;|trait a 9;");
        fault(CANT_STAND, "tree t narrow |later;");
        fault(CANT_STAND, "tree t |wide;");
        fault(CANT_STAND, "tree |later;");
        fault(CANT_STAND, "tree t later|");
        fault(TOLD_ALREADY, "tree t;tree |t;");
        fault(CANT_STAND, "tree t;tree u;tree v;|tree t;");
        for (String word : ("trait tree later narrow clause on says set forbids over needs bars if aim bears suckers seed"
            + " or and not").split(" ")) {
            fault(CANT_STAND, "tree |" + word + ";");
            fault(CANT_STAND, "aim 1+|" + word + ";");
        }
        fault(CANT_STAND, "aim 1;|aim 2;");
        fault(CANT_STAND, "aim 1;tree t;|aim");
        fault(CANT_STAND, "bears 1;|bears 1;");
        fault(CANT_STAND, "suckers 1;|suckers 10;");
        fault(CANT_STAND, "seed 1;|seed 1;");
        fault(CANT_BE, "bears |10;");
        fault(CANT_BE, "suckers |10;");
        fault(CANT_BE, "seed |1000;");
        fault(CANT_STAND, "seed |a;");
        fault(CANT_STAND, "seed |-1;");
        fault(CANT_STAND, "|later;");
        fault(CANT_STAND, "|7;");
        good(2, "trait a 2;tree a;clause a on a says 1 if a;");
    }

    private static void clauses() {
        good(1, "tree t;clause a on t says 0 if 1;clause b on t says 99 needs a set over a bars a forbids needs a if 1;");
        fault(CANT_STAND, "tree t;clause |on on t says 1 if 1;");
        fault(CANT_STAND, "tree t;clause a |t says 1 if 1;");
        fault(NO_NAME, "tree t;clause a on |u says 1 if 1;");
        fault(NO_NAME, "clause a on |u says 1 if 1;tree u;");
        fault(CANT_STAND, "tree t;clause a on |7 says 1 if 1;");
        fault(CANT_STAND, "tree t;clause a on t |1 if 1;");
        fault(CANT_STAND, "tree t;clause a on t says |if 1;");
        fault(CANT_BE, "tree t;clause a on t says |100 if 1;");
        fault(CANT_STAND, "tree t;clause a on t says 1|;");
        fault(CANT_STAND, "tree t;clause a on t says 1 |1;");
        fault(CANT_STAND, "tree t;clause a on t says 1 if 1|");
        fault(CANT_STAND, "tree t;clause a on t says 1 set |set if 1;");
        fault(CANT_STAND, "tree t;clause a on t says 1 forbids set |forbids if 1;");
        fault(CANT_STAND, "tree t;clause a on t says 1 if 1 |set;");
        fault(TOLD_ALREADY, "tree t;clause a on t says 1 if 1;clause |a on t says 1 if 1;");
        for (String sort : new String[] {"over", "needs", "bars"}) {
            fault(NO_NAME, "tree t;clause a on t says 1 " + sort + " |a if 1;");
            fault(NO_NAME, "tree t;clause a on t says 1 " + sort + " |t if 1;");
            fault(CANT_STAND, "tree t;clause a on t says 1 " + sort + " |if 1;");
            fault(CANT_STAND, "tree t;clause a on t says 1 if 1;clause b on t says 1 " + sort + " a |a if 1;");
        }
        fault(OTHER_TREE, "tree t;tree u;clause a on t says 1 if 1;clause b on u says 1 over |a if 1;");
        fault(OTHER_TREE, "tree t;tree u;clause a on t says 1 if 1;clause b on u says 1 needs a bars a over |a$");
        good(1, "tree t;tree u;clause a on t says 1 if 1;clause b on u says 1 needs a bars a if 1;");
    }

    private static void manyClauses() {
        StringBuilder text = new StringBuilder("tree t;");
        for (char c = 'a'; c <= 'l'; c++) {
            text.append("clause ").append(c).append(" on t says 1 if 1;");
        }
        good(1, text.toString());
        fault(CANT_STAND, text + "|clause m on t says 1 if 1;");
        fault(CANT_STAND, text + "|clause a on t says 1 if 1;");
        StringBuilder links = new StringBuilder("tree t;clause a on t says 1 if 1;clause b on t says 1");
        for (int n = 0; n < 15; n++) {
            links.append(" needs a");
        }
        links.append(" if 1;clause c on t says 1");
        for (int n = 0; n < 5; n++) {
            links.append(" over a bars b needs a");
        }
        good(1, links + " if 1;");
        fault(CANT_STAND, links + " |needs a if 1;");
        fault(CANT_STAND, links + " |over if 1;");
        fault(CANT_STAND, links + " |bars nobody if 1;");
        good(1, links + " set forbids if 1;");
    }

    private static void formulas() {
        fault(CANT_STAND, "aim |;");
        fault(CANT_STAND, "aim|");
        fault(CANT_STAND, "aim |-1;");
        fault(CANT_STAND, "aim 1+|;");
        fault(CANT_STAND, "aim 1 |1;");
        fault(CANT_STAND, "aim 1<2|=3;");
        fault(CANT_STAND, "aim 1=|=1;");
        fault(CANT_STAND, "aim 1+|not 1;");
        fault(CANT_STAND, "aim 1<|not 1;");
        fault(CANT_STAND, "aim not|;");
        fault(CANT_STAND, "aim 1 and|;");
        fault(CANT_STAND, "aim 1 and |or 1;");
        fault(CANT_STAND, "aim (|);");
        fault(CANT_STAND, "aim (1|;");
        fault(CANT_STAND, "aim (1|");
        fault(CANT_STAND, "aim 1|);");
        fault(CANT_STAND, "aim (1) |(2);");
        fault(NO_NAME, "aim |a;");
        fault(NO_NAME, "aim |a;trait a 2;");
        fault(NO_NAME, "tree t;aim |t;");
        fault(NO_NAME, "trait a 2;aim a+1*(|b);");
        good(1, "aim not not 1 and not (1<2) or not 3*(4-5)%6=7;");
        good(1, "aim (1<2)<3;");
    }

    private static String sum(int units) {
        StringBuilder sum = new StringBuilder("1");
        for (int n = 1; n < units; n++) {
            sum.append("+1");
        }
        return sum.toString();
    }

    private static void units() {
        good(1, "aim " + sum(30) + ";");
        fault(CANT_STAND, "aim " + sum(30) + "+|1;");
        fault(CANT_STAND, "aim " + sum(30) + "+|(1);");
        fault(CANT_STAND, "aim " + sum(30) + "+|nobody;");
        fault(NO_TOKEN, "aim " + sum(30) + "+|$;");
        fault(CANT_STAND, "aim " + sum(28) + "+((|1));");
        good(1, "aim " + sum(27) + "+((1));");
        fault(CANT_STAND, "aim " + sum(29) + "+(|1);");
        String four = "tree t;";
        for (char c = 'a'; c <= 'd'; c++) {
            four += "clause " + c + " on t says 1 if " + sum(30) + ";";
        }
        good(1, four);
        GraftedLaws x = Desk.grown(four);
        DESK.due("units", x.about(13), 120);
        fault(CANT_STAND, four + "aim |1;");
        fault(CANT_STAND, four + "aim not |(1);");
        fault(CANT_STAND, four + "clause e on t says 1 if |1;");
        String short4 = four.substring(0, four.length() - 3) + ";";
        good(1, short4 + "aim 1;");
        fault(CANT_STAND, short4 + "aim (|1);");
    }

    private static void depth() {
        good(1, "aim (((((((1)))))));");
        fault(CANT_STAND, "aim (((((((|(1))))))));");
        fault(CANT_STAND, "aim (((((((|not 1)))))));");
        good(1, "aim not not not not not not not 1;");
        fault(CANT_STAND, "aim not not not not not not not |not 1;");
        fault(CANT_STAND, "aim not not not not not not not |(1);");
        good(1, "aim not (not (not (not 1)));");
        fault(CANT_STAND, "aim not (not (not (not |(1))));");
        good(1, "aim not not not not not not not 1 and not not not not not not not 1+1*1;");
        good(1, "aim (((((((1)))))))+(((((((1)))))))<1;");
        good(1, "aim not not not not not not (1) or (((((((1)))))));");
        fault(CANT_STAND, "aim not not not not not not (|(1));");
    }

    private static void order() {
        fault(CANT_BE, "trait a |1$");
        fault(TOLD_ALREADY, "tree t;tree |t$");
        fault(NO_NAME, "tree t;clause a on |u$");
        fault(CANT_STAND, "tree t|(12345");
        fault(CANT_STAND, "aim 1;|aim$");
        fault(NO_TOKEN, "trait a |$;trait a 2;");
        fault(CANT_STAND, "aim (((((((|($");
        fault(NO_TOKEN, "aim (((((((|$");
        StringBuilder wide = new StringBuilder();
        while (wide.length() < 1600) {
            wide.append(' ');
        }
        good(1, wide.toString());
        fault(CANT_STAND, "tree t" + wide.substring(6) + "|");
        good(1, "tree t" + wide.substring(7) + ";");
    }
}
