import java.util.ArrayList;
import java.util.List;
import java.util.Random;

/** Texts of orchards by chance, with a seed: most of them without a fault. */
final class Texts {
    private final Random chance;
    private final List<String> traits = new ArrayList<>();
    private final List<String> trees = new ArrayList<>();
    private final List<String> clauses = new ArrayList<>();
    private final List<Integer> homes = new ArrayList<>();
    private final boolean careless;
    private int links;
    private int unitsLeft;
    private int unitsHere;

    /** Careless ones go beyond the limits now and then. */
    Texts(Random chance, boolean careless) {
        this.chance = chance;
        this.careless = careless;
    }

    private boolean slips() {
        return careless && chance.nextInt(6) == 0;
    }

    String next(int mostTraits, int mostClauses) {
        traits.clear();
        trees.clear();
        clauses.clear();
        homes.clear();
        links = 0;
        unitsLeft = 120;
        StringBuilder text = new StringBuilder();
        int wantedTraits = chance.nextInt(mostTraits + 1);
        int wantedTrees = 1 + chance.nextInt(3);
        int wantedClauses = chance.nextInt(mostClauses + 1);
        boolean[] once = new boolean[4];
        for (int i = 0; i < 60; i++) {
            int sort = chance.nextInt(12);
            if (sort < 3 && traits.size() < wantedTraits + (slips() ? 3 : 0) && traits.size() < 6) {
                String name = name("abcdef", traits.size());
                text.append("trait ").append(name).append(gap()).append(2 + chance.nextInt(3));
                traits.add(name);
            } else if (sort < 5 && trees.size() < wantedTrees + (slips() ? 2 : 0) && trees.size() < 5) {
                String name = name("tuvwx", trees.size());
                text.append("tree ").append(name);
                text.append(new String[] {"", " later", " narrow"}[chance.nextInt(3)]);
                trees.add(name);
            } else if (sort < 10 && clauses.size() < wantedClauses + (slips() ? 3 : 0) && !trees.isEmpty() && i > 8) {
                clause(text);
            } else if (sort == 10 && !once[0] && i > 8) {
                once[0] = true;
                text.append("aim ").append(formula());
            } else if (sort == 11 && chance.nextBoolean()) {
                int which = 1 + chance.nextInt(3);
                if (once[which]) {
                    continue;
                }
                once[which] = true;
                text.append(new String[] {"", "bears ", "suckers ", "seed "}[which]);
                text.append(chance.nextInt(which == 3 ? 1000 : 5));
            } else {
                continue;
            }
            text.append(gap()).append(";").append(gap());
        }
        return text.toString();
    }

    private String gap() {
        int n = chance.nextInt(8);
        return n == 0 ? "" : n == 1 ? "\n" : n == 2 ? "  " : " ";
    }

    private static String name(String letters, int i) {
        return i % 2 == 0 ? letters.substring(i, i + 1) : letters.substring(0, i + 1);
    }

    private void clause(StringBuilder text) {
        int home = chance.nextInt(trees.size());
        if (chance.nextInt(3) > 0) {
            home = 0;
        }
        String name = "c" + (char) ('a' + clauses.size());
        text.append("clause ").append(name).append(" on ").append(trees.get(home)).append(" says ");
        text.append(chance.nextInt(chance.nextBoolean() ? 4 : slips() ? 200 : 100)).append(' ');
        boolean set = chance.nextInt(2) == 0;
        boolean forbids = chance.nextInt(12) == 0;
        for (int n = chance.nextInt(slips() ? 12 : 4); n > 0 && !clauses.isEmpty() && (links < 30 || slips()); n--) {
            int other = chance.nextInt(clauses.size());
            String sort = new String[] {"over", "needs", "bars"}[chance.nextInt(3)];
            if (sort.equals("over") && homes.get(other) != home && !slips()) {
                continue;
            }
            links++;
            text.append(sort).append(' ').append(clauses.get(other)).append(' ');
        }
        text.append(set ? "set " : "").append(forbids ? "forbids " : "").append("if ").append(formula());
        clauses.add(name);
        homes.add(home);
    }

    private String formula() {
        unitsHere = Math.min(30, Math.max(1, Math.min(unitsLeft, 2 + chance.nextInt(9))));
        if (slips()) {
            unitsHere = 28 + chance.nextInt(8);
        }
        return either(0);
    }

    private String either(int depth) {
        String left = one(depth);
        while (unitsHere > 0 && chance.nextInt(3) == 0) {
            left += (chance.nextBoolean() ? " and " : " or ") + one(depth);
        }
        return left;
    }

    private String one(int depth) {
        if (depth < (careless ? 9 : 6) && chance.nextInt(careless ? 3 : 6) == 0) {
            return "not " + one(depth + 1);
        }
        String left = sum(depth);
        if (unitsHere > 0 && chance.nextInt(3) > 0) {
            left += gap() + "<>=".charAt(chance.nextInt(3)) + gap() + sum(depth);
        }
        return left;
    }

    private String sum(int depth) {
        String left = unit(depth);
        while (unitsHere > 0 && chance.nextInt(3) == 0) {
            left += gap() + "+-*/%".charAt(chance.nextInt(5)) + gap() + unit(depth);
        }
        return left;
    }

    private String unit(int depth) {
        unitsHere--;
        unitsLeft--;
        if (depth < (careless ? 9 : 6) && unitsHere > 1 && chance.nextInt(careless ? 3 : 5) == 0) {
            return "(" + either(depth + 1) + ")";
        }
        if (!traits.isEmpty() && chance.nextInt(3) > 0) {
            return slips() && slips() ? "nobody" : traits.get(chance.nextInt(traits.size()));
        }
        return String.valueOf(chance.nextInt(20) == 0 ? chance.nextInt(10000) : chance.nextInt(5));
    }

    /** The text with one place or some made wrong, most times. */
    String spoilt(String text) {
        StringBuilder spoilt = new StringBuilder(text);
        String[] bits = {"$", "a", "z", "7", ";", "(", ")", "<", "=", "+", " ", "\n", " not ", " set ", "over ca ",
            "tree x;", "trait y 2;", "12345", "aim 1;", "abcdefghi", "\u00e9", "A", "\0", "bears 3;", "and", " later",
            "seed 7;", "(((((((", "not not not ", "1+1+1+1+1+1+1+1+1+1+1+1+1+1+1+1+1+1+", " forbids ", " needs cb ",
            "1a", "a1", "suckers 0;", "\t"};
        for (int n = 1 + chance.nextInt(2); n > 0; n--) {
            int at = spoilt.length() == 0 ? 0 : chance.nextInt(spoilt.length());
            int sort = chance.nextInt(4);
            if (sort == 0) {
                spoilt.setLength(at);
            } else if (sort == 1 && at < spoilt.length()) {
                spoilt.deleteCharAt(at);
            } else if (sort == 2 && at < spoilt.length()) {
                spoilt.setCharAt(at, bits[chance.nextInt(bits.length)].charAt(0));
            } else {
                spoilt.insert(at, bits[chance.nextInt(bits.length)]);
            }
        }
        return spoilt.toString();
    }
}
