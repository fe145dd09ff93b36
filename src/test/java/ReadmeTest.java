import java.io.IOException;
import java.lang.reflect.Field;
import java.lang.reflect.Modifier;
import java.net.URL;
import java.net.URLClassLoader;
import java.nio.file.Files;
import java.nio.file.Path;
import java.util.ArrayList;
import java.util.List;
import java.util.Map;
import java.util.Set;
import java.util.TreeMap;
import java.util.TreeSet;
import java.util.regex.Matcher;
import java.util.regex.Pattern;
import java.util.stream.Collectors;
import java.util.stream.Stream;
import javax.tools.JavaCompiler;
import javax.tools.ToolProvider;

/**
 * README.md holds what it says: its lines of code compile and answer as is written behind them, its tables
 * have the document's face with the constants that refuse, and each of these is shown by a line of code.
 */
public final class ReadmeTest {
    private static final Pattern CALL_ROW = Pattern.compile("\\| `(int \\w+\\([^)]*\\))` \\|(.*)");
    private static final Pattern PROMISE = Pattern.compile("`(int \\w+\\([^)]*\\))`: (.*)");
    private static final Pattern CONSTANT_ROW = Pattern.compile("\\| `([A-Z]+)` \\| (-?[0-9]+) \\|.*");
    private static final Pattern TEST_ROW = Pattern.compile("\\| `(\\w+Test)` \\|.*");
    private static final Pattern CONSTANT = Pattern.compile("\\b(BAD|STATE|FULL|NONE|NO)\\b");
    private static final Pattern TOLD_CONSTANT = Pattern.compile("`(BAD|STATE|FULL|NONE|NO)`");
    private static final Pattern CALLED = Pattern.compile("\\w+\\.(\\w+)\\(.*\\)");

    /** One line of code with the answer behind it. */
    private static final class Shown {
        static final Pattern LINE = Pattern.compile("\\s*(?:int (\\w+) = )?(\\w+\\..*\\)); +// (-?[0-9]+|[A-Z]+)(:.*)?");

        final String where;
        final String name;
        final String call;
        final String answer;

        Shown(int line, Matcher parts) {
            name = parts.group(1);
            call = parts.group(2);
            answer = parts.group(3);
            where = "README.md, line " + line + ": " + call;
        }

        boolean isOf(String method) {
            Matcher called = CALLED.matcher(call);
            return called.matches() && called.group(1).equals(method);
        }

        boolean isNumber() {
            return !CONSTANT.matcher(answer).matches();
        }
    }

    private final Path readme = Path.of(System.getProperty("readme", "README.md")).toAbsolutePath();
    private final Path document = Path.of(System.getProperty("document", "../shared/DOC.md"));
    private final List<String> lines = Files.readAllLines(readme);
    private final List<Shown> shown = new ArrayList<>();
    private final Map<String, Integer> constants = constantsOfTheClass();

    private ReadmeTest() throws IOException {
    }

    public static void main(String[] args) throws Exception {
        ReadmeTest test = new ReadmeTest();
        test.codeAnswersAsWritten();
        test.constantsAreThere();
        test.callsAreThoseOfTheDocument();
        test.everyAnswerIsShown();
        test.everyTestIsNamed();
        Check.end("ReadmeTest");
    }

    private static Map<String, Integer> constantsOfTheClass() {
        Map<String, Integer> found = new TreeMap<>();
        for (Field field : RingSteer.class.getDeclaredFields()) {
            if (Modifier.isPublic(field.getModifiers())) {
                try {
                    found.put(field.getName(), field.getInt(null));
                } catch (IllegalAccessException e) {
                    throw new IllegalStateException(e);
                }
            }
        }
        return found;
    }

    private void codeAnswersAsWritten() throws Exception {
        String code = codeThatAnswers();
        List<Integer> got = answersOf(code);
        Check.due("answers of README.md's code", shown.size(), got.size());
        for (int i = 0; i < Math.min(shown.size(), got.size()); i++) {
            Shown one = shown.get(i);
            Integer constant = constants.get(one.answer);
            Check.holds(one.where + " has a number or a constant behind it", constant != null || one.isNumber());
            Check.due(one.where, constant != null ? constant : Integer.parseInt(one.answer), got.get(i));
        }
    }

    /** A class with a method for each block of code; a block that is a method itself stands beside them. */
    private String codeThatAnswers() {
        StringBuilder members = new StringBuilder();
        StringBuilder calls = new StringBuilder();
        int line = 0;
        while (line < lines.size()) {
            if (!lines.get(line++).equals("```java")) {
                continue;
            }
            boolean isMethod = lines.get(line).startsWith("static ");
            String name = "block" + line;
            members.append(isMethod ? "" : "static void " + name + "(java.util.List<Integer> got) {\n");
            calls.append(isMethod ? "" : name + "(got);\n");
            while (line < lines.size() && !lines.get(line).equals("```")) {
                members.append(codeOf(lines.get(line), ++line)).append('\n');
            }
            members.append(isMethod ? "" : "}\n");
        }
        return "public final class ReadmeLines {\n" + members + "public static java.util.List<Integer> answers() {\n"
            + "java.util.List<Integer> got = new java.util.ArrayList<>();\n" + calls + "return got;\n}\n}\n";
    }

    private String codeOf(String text, int line) {
        Matcher parts = Shown.LINE.matcher(text);
        if (!parts.matches()) {
            Check.holds("README.md, line " + line + " has an answer that can be read", !text.contains("//"));
            return text;
        }
        Shown one = new Shown(line, parts);
        shown.add(one);
        return one.name == null ? "got.add(" + one.call + ");"
            : "int " + one.name + " = " + one.call + "; got.add(" + one.name + ");";
    }

    private static List<Integer> answersOf(String code) throws Exception {
        Path folder = Files.createTempDirectory("readme");
        Path source = Files.writeString(folder.resolve("ReadmeLines.java"), code);
        List<Integer> answers = new ArrayList<>();
        JavaCompiler compiler = ToolProvider.getSystemJavaCompiler();
        boolean compiles = compiler != null && compiler.run(null, null, null, "-d", folder.toString(),
            "-cp", System.getProperty("java.class.path"), source.toString()) == 0;
        Check.holds("README.md's code compiles", compiles);
        if (compiles) {
            try (URLClassLoader loader = new URLClassLoader(new URL[] {folder.toUri().toURL()})) {
                List<?> got = (List<?>) loader.loadClass("ReadmeLines").getMethod("answers").invoke(null);
                got.forEach(answer -> answers.add((Integer) answer));
            }
            Files.delete(folder.resolve("ReadmeLines.class"));
        }
        Files.delete(source);
        Files.delete(folder);
        return answers;
    }

    private static List<Matcher> matches(List<String> among, Pattern pattern) {
        return among.stream().map(pattern::matcher).filter(Matcher::matches).collect(Collectors.toList());
    }

    private void constantsAreThere() {
        Map<String, Integer> told = new TreeMap<>();
        matches(lines, CONSTANT_ROW).forEach(row -> told.put(row.group(1), Integer.parseInt(row.group(2))));
        Check.holds("README.md tells the constants " + constants + ": " + told, told.equals(constants));
        Check.holds("README.md tells the constructor", lines.stream().anyMatch(line -> line.startsWith("`RingSteer()` ")));
    }

    private static Set<String> named(String text, Pattern constant) {
        Set<String> found = new TreeSet<>();
        Matcher matcher = constant.matcher(text);
        while (matcher.find()) {
            found.add(matcher.group(1));
        }
        return found;
    }

    /** Call by call in the document's order, with the constants that its promise names. */
    private void callsAreThoseOfTheDocument() throws IOException {
        List<Matcher> promises = matches(Files.readAllLines(document), PROMISE);
        List<Matcher> rows = matches(lines, CALL_ROW);
        Check.due("promises of calls", 20, promises.size());
        Check.due("calls in README.md", promises.size(), rows.size());
        for (int i = 0; i < Math.min(promises.size(), rows.size()); i++) {
            String due = promises.get(i).group(1);
            String told = rows.get(i).group(1);
            Check.holds("README.md tells " + due + ": " + told, told.equals(due));
            // "NO: BAD" says that NO stands for BAD there.
            Set<String> dueNames = named(promises.get(i).group(2).replace("NO: BAD", "NO"), CONSTANT);
            Set<String> toldNames = named(rows.get(i).group(2), TOLD_CONSTANT);
            Check.holds("README.md tells " + dueNames + " of " + due + ": " + toldNames, toldNames.equals(dueNames));
            Check.due("columns of " + told, 3, rows.get(i).group(2).chars().filter(c -> c == '|').count());
        }
    }

    private void everyAnswerIsShown() {
        for (Matcher row : matches(lines, CALL_ROW)) {
            String method = row.group(1).replaceAll("int (\\w+)\\(.*", "$1");
            List<Shown> its = shown.stream().filter(one -> one.isOf(method)).collect(Collectors.toList());
            Check.holds("README.md shows an answer of " + method, its.stream().anyMatch(Shown::isNumber));
            for (String constant : named(row.group(2), TOLD_CONSTANT)) {
                Check.holds("README.md shows " + constant + " of " + method,
                    its.stream().anyMatch(one -> one.answer.equals(constant)));
            }
        }
    }

    private void everyTestIsNamed() throws IOException {
        Set<String> told = new TreeSet<>();
        matches(lines, TEST_ROW).forEach(row -> told.add(row.group(1)));
        try (Stream<Path> files = Files.list(readme.resolveSibling("src/test/java"))) {
            Set<String> tests = files.map(file -> file.getFileName().toString()).filter(name -> name.endsWith("Test.java"))
                .map(name -> name.replace(".java", "")).collect(Collectors.toCollection(TreeSet::new));
            Check.holds("README.md names the tests " + tests + ": " + told, told.equals(tests));
        }
        Check.holds("README.md says how they are run", lines.contains("    .ci/run"));
    }
}
