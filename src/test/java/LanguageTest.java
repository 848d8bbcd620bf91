import java.io.IOException;
import java.lang.reflect.Constructor;
import java.lang.reflect.Field;
import java.lang.reflect.Method;
import java.lang.reflect.Modifier;
import java.nio.charset.StandardCharsets;
import java.nio.file.Files;
import java.nio.file.Path;
import java.util.Set;
import java.util.TreeSet;
import java.util.regex.Matcher;
import java.util.regex.Pattern;

/** The rules of LANGUAGE.md that can be seen in the source or in the compiled class. */
public final class LanguageTest {
    private static final Desk DESK = new Desk("LanguageTest");
    private static final String FACE = "feed5 end1 orchard0 fault1 trait2 clause2 applies2 over2 wide1 follows2 many2 first2 may2"
        + " graft1 prune1 year0 storm0 undo0 redo0 fruit1 wish2 hush0 least1 pith1 aim1 holes2 gains1 mend1 evade2"
        + " unlike2 reach2 parties3 lies1 judge3 untell1 later1 can3 ask3 image1 back1 about1";

    public static void main(String[] args) throws IOException {
        String root = args.length > 0 ? args[0] : ".";
        String source = Files.readString(Path.of(root, "src/main/java/GraftedLaws.java"), StandardCharsets.ISO_8859_1);
        String bare = source.replaceAll("(?s)/\\*.*?\\*/", " ").replaceAll("//[^\n]*", " ").replaceAll("'.'", "0");
        face();
        nested();
        words(bare);
        lengths(source);
        DESK.close();
    }

    /** Rule 1. */
    private static void face() {
        Set<String> wants = new TreeSet<>(Set.of(FACE.split(" ")));
        Set<String> has = new TreeSet<>();
        Set<String> names = new TreeSet<>();
        for (Method method : GraftedLaws.class.getDeclaredMethods()) {
            if (!Modifier.isPrivate(method.getModifiers())) {
                has.add(method.getName() + method.getParameterCount());
                names.add(method.getName());
            }
        }
        DESK.due("methods of the face, " + has, has.equals(wants), true);
        for (Method method : GraftedLaws.class.getDeclaredMethods()) {
            boolean clash = Modifier.isPrivate(method.getModifiers()) && names.contains(method.getName());
            DESK.due("private " + method.getName() + " bears a public name", clash, false);
        }
        for (Class<?> inside : GraftedLaws.class.getDeclaredClasses()) {
            for (Method method : inside.getDeclaredMethods()) {
                DESK.due(inside + "." + method.getName() + " bears a public name", names.contains(method.getName()), false);
            }
        }
        int constants = 0;
        for (Field field : GraftedLaws.class.getDeclaredFields()) {
            boolean isConstant = field.getName().equals("NONE") || field.getName().equals("SPLIT");
            DESK.due(field + " is private", Modifier.isPrivate(field.getModifiers()), !isConstant);
            constants += isConstant ? 1 : 0;
        }
        DESK.due("constants", constants, 2);
        Constructor<?>[] makers = GraftedLaws.class.getDeclaredConstructors();
        DESK.due("constructors", makers.length, 1);
        DESK.due("it is public", Modifier.isPublic(makers[0].getModifiers()), true);
        DESK.due("the class is final", Modifier.isFinal(GraftedLaws.class.getModifiers()), true);
    }

    /** Rules 2, 5 and 11. */
    private static void nested() {
        Class<?>[] inside = GraftedLaws.class.getDeclaredClasses();
        DESK.due("classes " + (inside.length + 1), inside.length + 1 <= 12, true);
        for (Class<?> one : inside) {
            DESK.due(one + " is static", Modifier.isStatic(one.getModifiers()), true);
            DESK.due(one + " holds no classes", one.getDeclaredClasses().length, 0);
            fields(one);
        }
        fields(GraftedLaws.class);
    }

    private static void fields(Class<?> one) {
        int own = 0;
        for (Field field : one.getDeclaredFields()) {
            if (Modifier.isStatic(field.getModifiers())) {
                Class<?> type = field.getType();
                boolean fits = type == int.class || type == long.class || type == boolean.class || type == char.class
                    || type == String.class || type == long[].class || type == int[].class;
                DESK.due(field + " is a constant", fits && Modifier.isFinal(field.getModifiers()), true);
            } else {
                own++;
            }
        }
        DESK.due(one + " has few fields", own <= 20, true);
        for (Method method : one.getDeclaredMethods()) {
            DESK.due(method + " has few parameters", method.getParameterCount() <= 7, true);
        }
    }

    /** Rules 2, 4, 6 and 13. */
    private static void words(String bare) {
        for (String word : ("throw throws try catch finally synchronized assert instanceof double float package native"
            + " volatile transient Object Random System.nano System.current Thread Exception Exact hashCode toString").split(" ")) {
            DESK.due("the word " + word, Pattern.compile("\\b" + Pattern.quote(word) + "\\b").matcher(bare).find(), false);
        }
        DESK.due("a lambda", bare.contains("->"), false);
        DESK.due("a method reference", bare.contains("::"), false);
        DESK.due("a text", bare.contains("\""), false);
        Matcher imports = Pattern.compile("import ([^;]*);").matcher(bare);
        while (imports.find()) {
            DESK.due("import " + imports.group(1), imports.group(1).equals("java.util.Arrays"), true);
        }
        Matcher library = Pattern.compile("\\b(Arrays|System|Integer|Long|Math)\\.([a-zA-Z]+)").matcher(bare);
        while (library.find()) {
            String call = library.group(1) + "." + library.group(2);
            boolean listed = Set.of("Arrays.fill", "System.arraycopy", "Integer.bitCount", "Math.max", "Math.min").contains(call);
            DESK.due("the library's " + call, listed, true);
        }
        Matcher makes = Pattern.compile("\\bnew\\s+([A-Za-z]+)").matcher(bare);
        while (makes.find()) {
            boolean own = bare.contains("class " + makes.group(1) + " ");
            boolean number = Set.of("int", "short", "byte", "long").contains(makes.group(1));
            DESK.due("new " + makes.group(1), own || number, true);
        }
    }

    /** Rule 11: some sixty lines a method. */
    private static void lengths(String source) {
        String[] lines = source.split("\n");
        int from = 0;
        for (int i = 0; i < lines.length; i++) {
            DESK.due("line " + (i + 1) + " is not too long", lines[i].length() <= 130, true);
            if (lines[i].matches(" {4,8}[a-zA-Z].*\\) \\{")) {
                from = i;
            } else if (lines[i].matches(" {4,8}\\}")) {
                DESK.due("the method from line " + (from + 1) + " is short", i - from <= 60 || from == 0, true);
                from = 0;
            }
        }
    }
}
