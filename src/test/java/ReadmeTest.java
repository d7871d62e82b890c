import java.io.IOException;
import java.lang.reflect.Method;
import java.lang.reflect.Modifier;
import java.net.URL;
import java.net.URLClassLoader;
import java.nio.file.Files;
import java.nio.file.Path;
import java.util.ArrayList;
import java.util.List;
import java.util.regex.Matcher;
import java.util.regex.Pattern;
import javax.tools.JavaCompiler;
import javax.tools.ToolProvider;

/** README.md: its example is compiled and run as it stands there and answers as is said behind each call; no call is left out. */
public final class ReadmeTest {
    private static final Check check = new Check("ReadmeTest");
    private static final Pattern EXAMPLE = Pattern.compile("(?s)```java\n(.*?)```");
    private static final Pattern TOLD = Pattern.compile("(grid\\.(\\w+)\\(.*\\)); +// (-?\\d+|BAD|STATE|FULL|NONE): .+");
    private static final Pattern UNTOLD = Pattern.compile("GridTracks grid = new GridTracks\\(\\);| +grid\\.feed\\(text\\.charAt\\(k\\)\\);");

    public static void main(String[] args) throws IOException, ReflectiveOperationException {
        Path root = Path.of(args[0]).toAbsolutePath().getParent().getParent().getParent().getParent();
        String readme = Files.readString(root.resolve("README.md"));
        eachCallIsNamed(readme);
        exampleAnswersAsTold(readme);
        testsAreNamedAsTheyAre(readme, root);
        check.end();
    }

    private static void eachCallIsNamed(String readme) {
        for (Method m : GridTracks.class.getDeclaredMethods()) {
            if (Modifier.isPublic(m.getModifiers())) {
                String arguments = m.getParameterCount() == 0 ? "" : "\\w+" + ", \\w+".repeat(m.getParameterCount() - 1);
                String call = "`" + m.getName() + "\\(" + arguments + "\\)`";
                check.holds(call + " stands in README.md", Pattern.compile(call).matcher(readme).find());
            }
        }
    }

    private static void exampleAnswersAsTold(String readme) throws IOException, ReflectiveOperationException {
        Matcher example = EXAMPLE.matcher(readme);
        boolean isThere = example.find();
        check.holds("README.md has an example", isThere);
        if (!isThere) {
            return;
        }
        List<String> statements = new ArrayList<>();
        int told = 0;
        for (String line : example.group(1).split("\n")) {
            Matcher call = TOLD.matcher(line);
            boolean isTold = call.matches();
            check.holds("the answer is told of: " + line, isTold || !line.contains("grid") || UNTOLD.matcher(line).matches());
            statements.add(isTold ? comparison(call) : line);
            told += isTold ? 1 : 0;
        }
        check.holds("README.md has no second example", !example.find());
        List<?> wrong = run(source(statements), 0);
        check.holds("the example tells answers", told > 0);
        check.holds("the example answers as told: " + wrong, wrong.isEmpty());
        check.due("answers one beside those that are told, all wrong", run(source(statements), 1).size(), told);
    }

    private static String comparison(Matcher call) {
        String answer = call.group(3);
        String due = Character.isLetter(answer.charAt(0)) ? "GridTracks." + answer : answer;
        String name = call.group(1).replace("\\", "\\\\").replace("\"", "\\\"");
        return "compare(\"" + name + "\", " + call.group(1) + ", " + due + ");";
    }

    private static String source(List<String> statements) {
        return "public final class ReadmeExample {\n"
            + "private final java.util.List<String> wrong = new java.util.ArrayList<>();\n"
            + "private final int beside;\n"
            + "private ReadmeExample(int beside) { this.beside = beside; }\n"
            + "private void compare(String call, int got, int due) {\n"
            + "if (got != due + beside) { wrong.add(call + \" answered \" + got); }\n"
            + "}\n"
            + "private void example() {\n" + String.join("\n", statements) + "\n}\n"
            + "public static java.util.List<String> wrong(int beside) {\n"
            + "ReadmeExample one = new ReadmeExample(beside);\n"
            + "one.example();\n"
            + "return one.wrong;\n"
            + "}\n}\n";
    }

    private static List<?> run(String source, int beside) throws IOException, ReflectiveOperationException {
        Path out = Files.createTempDirectory("readme");
        Path file = out.resolve("ReadmeExample.java");
        Path made = out.resolve("ReadmeExample.class");
        try {
            Files.writeString(file, source);
            JavaCompiler javac = ToolProvider.getSystemJavaCompiler();
            int code = javac.run(null, null, null, "-d", out.toString(), "-cp", System.getProperty("java.class.path"), file.toString());
            check.due("javac of the example", code, 0);
            return code == 0 ? answers(out, beside) : List.of("it does not compile");
        } finally {
            Files.deleteIfExists(file);
            Files.deleteIfExists(made);
            Files.deleteIfExists(out);
        }
    }

    private static List<?> answers(Path out, int beside) throws IOException, ReflectiveOperationException {
        try (URLClassLoader loader = new URLClassLoader(new URL[] {out.toUri().toURL()}, ReadmeTest.class.getClassLoader())) {
            return (List<?>) loader.loadClass("ReadmeExample").getMethod("wrong", int.class).invoke(null, beside);
        }
    }

    /** What README.md says of running tests: the script and the classes that it names are there. */
    private static void testsAreNamedAsTheyAre(String readme, Path root) {
        check.holds("README.md names .ci/run", readme.contains("\n.ci/run\n"));
        check.holds(".ci/run can be run", Files.isExecutable(root.resolve(".ci/run")));
        Matcher named = Pattern.compile("\\b([A-Z]\\w+Test)\\b").matcher(readme);
        while (named.find()) {
            check.holds(named.group(1) + " is a test", Files.exists(root.resolve("src/test/java/" + named.group(1) + ".java")));
        }
    }
}
