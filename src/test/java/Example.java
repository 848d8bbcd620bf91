import java.nio.charset.StandardCharsets;

/** The example of README.md, which ReadmeTest holds against this file and against what it prints. */
public final class Example {
    public static void main(String[] args) {
        GraftedLaws laws = new GraftedLaws();
        tell(laws, """
            trait rich 3; trait old 2;
            tree tax narrow; tree toll later;
            clause all on tax says 5 set if 1;
            clause top on tax says 20 if rich = 2;
            clause aged on tax says 2 needs all if old and rich < 2;
            clause gate on toll says 5 set if rich > 0;
            aim rich * 9; bears 2; suckers 3; seed 7;
            """);
        show("cases", laws.orchard());
        show("fault", laws.fault(0));
        show("rich in case 5", laws.trait(5, 0));
        show("follows on tax for case 5", laws.follows(0, 5));
        show("loopholes on tax", laws.holes(0, 0));
        show("mends most on tax", laws.mend(0));
        show("top is grafted, bears from year", laws.graft(1));
        show("a year goes by", laws.year());
        show("one more", laws.year());
        show("follows on tax for case 5", laws.follows(0, 5));
        show("evades from case 5 to", laws.evade(0, 5));
        show("cases unlike on tax and toll", laws.unlike(0, 1));
        show("how many lie there", laws.about(14));
        show("the first of them", laws.lies(0));
        laws.wish(1, 2);
        show("least clauses more, as bits", laws.least(0));
        laws.judge(0, 5, 20);
        show("sets of clauses that can have been", laws.can(0, 0, 0));
        show("of all of them, as bits", laws.can(0, 1, 0));
        show("no such case", laws.follows(0, 6));
        tell(laws, "tree a; tree a;");
        show("a text with a fault", laws.orchard());
        show("its fault", laws.fault(0));
        show("at byte", laws.fault(1));
        show("cases of the orchard that stays", laws.about(1));
    }

    private static void tell(GraftedLaws laws, String text) {
        byte[] bytes = text.getBytes(StandardCharsets.US_ASCII);
        for (int i = 0; i < bytes.length; i += 20) {
            laws.feed(four(bytes, i), four(bytes, i + 4), four(bytes, i + 8), four(bytes, i + 12), four(bytes, i + 16));
        }
        laws.end(bytes.length);
    }

    private static int four(byte[] bytes, int from) {
        int number = 0;
        for (int i = from; i < from + 4; i++) {
            number = number << 8 | (i < bytes.length ? bytes[i] : 0);
        }
        return number;
    }

    private static void show(String what, int answer) {
        System.out.println(what + ": " + answer);
    }
}
