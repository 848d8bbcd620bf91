import java.io.ByteArrayOutputStream;
import java.io.IOException;
import java.io.PrintStream;
import java.lang.reflect.InvocationTargetException;
import java.lang.reflect.Method;
import java.lang.reflect.Modifier;
import java.nio.charset.StandardCharsets;
import java.nio.file.DirectoryStream;
import java.nio.file.Files;
import java.nio.file.Path;
import java.util.Arrays;
import java.util.Set;
import java.util.TreeSet;
import java.util.regex.Matcher;
import java.util.regex.Pattern;

/** What README.md says of the class and of its tests is so. */
public final class ReadmeTest {
    private static final Desk DESK = new Desk("ReadmeTest");
    private static final Pattern CALL = Pattern.compile("`(\\w+)\\(([^)`]*)\\)`");

    public static void main(String[] args) throws IOException, ReflectiveOperationException {
        String root = args.length > 0 ? args[0] : ".";
        String page = Files.readString(Path.of(root, "README.md"), StandardCharsets.UTF_8);
        example(root, page);
        calls(page);
        classes(page);
        tests(root, page);
        DESK.close();
    }

    private static void example(String root, String page) throws IOException {
        String source = Files.readString(Path.of(root, "src/test/java/Example.java"), StandardCharsets.UTF_8);
        DESK.due("the example's source", block(page, "java").equals(source), true);
        ByteArrayOutputStream bytes = new ByteArrayOutputStream();
        PrintStream out = System.out;
        System.setOut(new PrintStream(bytes, true, StandardCharsets.UTF_8));
        Example.main(new String[0]);
        System.setOut(out);
        String printed = bytes.toString(StandardCharsets.UTF_8).replace("\r\n", "\n");
        DESK.due("what the example prints", block(page, "text").equals(printed), true);
    }

    /** Each method of the class stands in the table once, with its parameters, and what is told for wrong arguments. */
    private static void calls(String page) throws ReflectiveOperationException {
        Set<String> told = new TreeSet<>();
        for (String line : table(page, "| calls |").split("\n")) {
            String[] columns = line.split("\\|", -1);
            String wrong = columns[3].isBlank() ? "-1" : columns[3].trim();
            for (Matcher call = CALL.matcher(columns[1]); call.find();) {
                int parameters = call.group(2).isEmpty() ? 0 : call.group(2).split(",").length;
                DESK.due(call.group() + " is told once", told.add(call.group(1) + parameters), true);
                refused(call.group(1), parameters, wrong);
            }
        }
        Set<String> has = new TreeSet<>();
        for (Method method : GraftedLaws.class.getDeclaredMethods()) {
            if (Modifier.isPublic(method.getModifiers())) {
                has.add(method.getName() + method.getParameterCount());
            }
        }
        DESK.due("the calls told, " + told, told.equals(has), true);
    }

    private static void refused(String name, int parameters, String want) throws ReflectiveOperationException {
        if (parameters == 0 || name.equals("feed")) {
            return;
        }
        for (Method method : GraftedLaws.class.getDeclaredMethods()) {
            if (method.getName().equals(name) && method.getParameterCount() == parameters) {
                Object[] arguments = new Object[parameters];
                Arrays.fill(arguments, -5);
                DESK.due(name + " of -5 is " + want, answer(method, arguments).equals(want), true);
            }
        }
    }

    private static String answer(Method method, Object[] arguments) throws IllegalAccessException, InvocationTargetException {
        return String.valueOf(method.invoke(new GraftedLaws(), arguments));
    }

    private static void classes(String page) {
        Set<String> has = new TreeSet<>();
        for (Class<?> inside : GraftedLaws.class.getDeclaredClasses()) {
            has.add(inside.getSimpleName());
        }
        DESK.due("the classes inside", firstColumn(table(page, "| class inside |")).equals(has), true);
    }

    private static void tests(String root, String page) throws IOException {
        Set<String> has = new TreeSet<>();
        try (DirectoryStream<Path> files = Files.newDirectoryStream(Path.of(root, "src/test/java"), "*Test.java")) {
            for (Path file : files) {
                has.add(file.getFileName().toString().replace(".java", ""));
            }
        }
        DESK.due("the tests", firstColumn(table(page, "| test |")).equals(has), true);
        DESK.due("how they are run", page.contains("\n.ci/run\n"), true);
        DESK.due(".ci/run can be run", Files.isExecutable(Path.of(root, ".ci/run")), true);
    }

    private static String block(String page, String kind) {
        Matcher block = Pattern.compile("(?s)\n```" + kind + "\n(.*?)```\n").matcher(page);
        return block.find() ? block.group(1) : "";
    }

    /** The rows below a table's head. */
    private static String table(String page, String head) {
        int from = page.indexOf("\n" + head);
        if (from < 0) {
            DESK.due("there is a table " + head, false, true);
            return "|||||";
        }
        String[] lines = page.substring(from + 1).split("\n");
        StringBuilder rows = new StringBuilder();
        for (int i = 2; i < lines.length && lines[i].startsWith("|"); i++) {
            rows.append(lines[i]).append('\n');
        }
        return rows.toString();
    }

    private static Set<String> firstColumn(String rows) {
        Set<String> names = new TreeSet<>();
        for (String row : rows.split("\n")) {
            names.add(row.split("\\|", -1)[1].trim().replace("`", ""));
        }
        return names;
    }
}
