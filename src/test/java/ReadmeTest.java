import java.io.File;
import java.io.IOException;
import java.lang.reflect.Modifier;
import java.net.URL;
import java.net.URLClassLoader;
import java.nio.file.Files;
import java.nio.file.Path;
import java.util.ArrayList;
import java.util.List;
import java.util.TreeSet;
import java.util.regex.Matcher;
import java.util.regex.Pattern;
import java.util.stream.Collectors;
import java.util.stream.Stream;
import javax.tools.ToolProvider;

/**
 * That README.md is right as it stands: its face is the document's, its calls can be compiled and answer what it says,
 * and its tables name the classes and the tests that there are. It runs in the project's folder.
 */
public final class ReadmeTest {
    private static final Path README = Path.of("README.md");
    private static final Path DOCUMENT = Path.of("../shared/DOC.md");
    private static final Path TESTS = Path.of("src/test/java");
    private static final Pattern BLOCK = Pattern.compile("```java\n(.*?)```", Pattern.DOTALL);
    private static final Pattern CALL = Pattern.compile("(x\\.(\\w+)\\(.*\\)); +// (-?\\d+)(?:, ([A-Z_]+))?(?:: .+)?");
    private static final Pattern CODE = Pattern.compile("\\| (-\\d) \\| `([A-Z_]+)` \\| .*");
    private static final Pattern FACE_METHOD = Pattern.compile("public int (\\w+)\\(");

    private static final List<String> calls = new ArrayList<>();
    private static final List<Integer> due = new ArrayList<>();
    private static final TreeSet<String> called = new TreeSet<>();
    private static final TreeSet<String> named = new TreeSet<>();

    public static void main(String[] args) throws Exception {
        String readme = Files.readString(README);
        String use = readme.substring(0, readme.indexOf("## How it is built"));
        List<String> blocks = blocks(use);
        String face = blocks(Files.readString(DOCUMENT)).get(0);
        Due.isTrue("the face in README.md is the document's", blocks.get(0).equals(face));
        answers(blocks.subList(1, blocks.size()));
        Due.isTrue("README.md calls each method, so far " + called, called.equals(found(FACE_METHOD, face)));
        codes(use);
        classes(readme);
        tests(readme);
        Due.end();
    }

    private static List<String> blocks(String text) {
        return BLOCK.matcher(text).results().map(block -> block.group(1)).collect(Collectors.toList());
    }

    private static TreeSet<String> found(Pattern pattern, String text) {
        TreeSet<String> all = new TreeSet<>();
        pattern.matcher(text).results().forEach(match -> all.add(match.group(1)));
        return all;
    }

    /** Makes a class of the blocks, which lists what the calls answer, and holds it against what stands behind them. */
    private static void answers(List<String> blocks) throws Exception {
        StringBuilder methods = new StringBuilder();
        StringBuilder run = new StringBuilder();
        for (String block : blocks) {
            if (block.startsWith("static ")) {
                methods.append(block);
            } else {
                block.lines().forEach(line -> run.append(statement(line)).append('\n'));
            }
        }
        List<?> answers = runClass("public final class ReadmeCalls {\n" + methods
                + "public static java.util.List<Integer> run() {\n"
                + "java.util.List<Integer> answers = new java.util.ArrayList<>();\n" + run + "return answers;\n}\n}\n");
        for (int i = 0; i < answers.size(); i++) {
            Due.is("README.md: " + calls.get(i), (Integer) answers.get(i), due.get(i));
        }
        Due.is("how many calls of README.md answered", answers.size(), calls.size());
    }

    private static String statement(String line) {
        Matcher call = CALL.matcher(line);
        if (!call.matches()) {
            Due.isTrue("a call and its answer stand in: " + line, line.equals("ShadowRows x = new ShadowRows();"));
            return line;
        }
        calls.add(call.group(1));
        called.add(call.group(2));
        due.add(Integer.parseInt(call.group(3)));
        nameIs(line, due.get(due.size() - 1), call.group(4));
        return "answers.add(" + call.group(1) + ");";
    }

    /** An answer below 0 stands with its name, and another one without. */
    private static void nameIs(String where, int answer, String name) {
        Due.isTrue("the name stands in: " + where, answer < 0 == (name != null));
        if (name != null) {
            named.add(name);
            Due.is("the name in: " + where, constant(name), answer);
        }
    }

    private static int constant(String name) {
        try {
            return ShadowRows.class.getField(name).getInt(null);
        } catch (ReflectiveOperationException missing) {
            return 1;
        }
    }

    private static List<?> runClass(String source) throws Exception {
        Path folder = Files.createTempDirectory("readme");
        Path file = folder.resolve("ReadmeCalls.java");
        try {
            Files.writeString(file, source);
            String path = System.getProperty("java.class.path");
            int exit = ToolProvider.getSystemJavaCompiler().run(null, null, null, "-cp", path, "-d", folder.toString(), file.toString());
            Due.is("the compiler, of the calls in README.md,", exit, 0);
            return exit == 0 ? runCompiled(folder.toUri().toURL()) : List.of();
        } finally {
            for (File left : folder.toFile().listFiles()) {
                left.delete();
            }
            Files.delete(folder);
        }
    }

    private static List<?> runCompiled(URL folder) throws Exception {
        try (URLClassLoader loader = new URLClassLoader(new URL[] {folder}, ReadmeTest.class.getClassLoader())) {
            return (List<?>) loader.loadClass("ReadmeCalls").getMethod("run").invoke(null);
        }
    }

    /** The table has all constants, and each of them is the answer of a call. */
    private static void codes(String use) {
        TreeSet<String> inTable = new TreeSet<>();
        Matcher code = CODE.matcher(use);
        while (code.find()) {
            inTable.add(code.group(2));
            Due.is("the code of " + code.group(2), constant(code.group(2)), Integer.parseInt(code.group(1)));
        }
        TreeSet<String> there = new TreeSet<>();
        for (java.lang.reflect.Field field : ShadowRows.class.getDeclaredFields()) {
            if (Modifier.isPublic(field.getModifiers())) {
                there.add(field.getName());
            }
        }
        Due.isTrue("the codes in the table, " + inTable, inTable.equals(there));
        Due.isTrue("the codes that calls answer, " + named, named.equals(there));
    }

    private static void classes(String readme) {
        TreeSet<String> there = new TreeSet<>(List.of("ShadowRows"));
        for (Class<?> inside : ShadowRows.class.getDeclaredClasses()) {
            there.add(inside.getSimpleName());
        }
        TreeSet<String> inTable = inFirstColumn(readme, "| class |");
        Due.isTrue("the classes in the table, " + inTable + ", are " + there, inTable.equals(there));
    }

    private static void tests(String readme) throws IOException {
        TreeSet<String> there = new TreeSet<>();
        try (Stream<Path> all = Files.list(TESTS)) {
            all.map(file -> file.getFileName().toString()).filter(name -> name.endsWith("Test.java"))
                    .forEach(name -> there.add(name.substring(0, name.length() - ".java".length())));
        }
        TreeSet<String> inTable = inFirstColumn(readme, "| test |");
        Due.isTrue("the tests in the table, " + inTable + ", are " + there, inTable.equals(there));
    }

    /** What stands between ` and ` in the first column of the table that begins like this. */
    private static TreeSet<String> inFirstColumn(String readme, String beginning) {
        TreeSet<String> names = new TreeSet<>();
        List<String> lines = new ArrayList<>(readme.substring(readme.indexOf(beginning)).lines().collect(Collectors.toList()));
        for (int i = 2; i < lines.size() && lines.get(i).startsWith("|"); i++) {
            names.addAll(found(Pattern.compile("`(\\w+)`"), lines.get(i).split("\\|")[1]));
        }
        return names;
    }
}
