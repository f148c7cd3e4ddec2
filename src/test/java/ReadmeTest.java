import java.io.File;
import java.net.URL;
import java.net.URLClassLoader;
import java.nio.file.Files;
import java.nio.file.Path;
import java.util.List;
import java.util.regex.Matcher;
import java.util.regex.Pattern;
import javax.tools.JavaCompiler;
import javax.tools.ToolProvider;

/** README.md: it names all calls and all tests, and what it shows of the class compiles and answers what it says. */
public final class ReadmeTest {
    private static final Pattern SHOWN = Pattern.compile("(?s)```java\n(.*?)```");
    private static final Pattern ANSWER = Pattern.compile("int (\\w+) = (.*); +// (-?\\d+): .*");
    private static final String HEAD = "public final class Shown {\npublic static java.util.List<Object[]> all() {\n"
        + "java.util.List<Object[]> answers = new java.util.ArrayList<>();\n";
    private static final String FOOT = "return answers;\n}\n}\n";

    public static void main(String[] args) throws Exception {
        String readme = Files.readString(Path.of("README.md"));
        namesAllCalls(readme);
        namesAllTests(readme);
        showsWhatIsSo(readme);
        Due.close();
    }

    private static void namesAllCalls(String readme) {
        Due.topic("README.md, calls");
        for (var method : TwoReels.class.getMethods()) {
            if (method.getDeclaringClass() != TwoReels.class) continue;
            Due.holds(method.getName() + " is named", readme.contains("`" + method.getName() + "`"));
        }
    }

    private static void namesAllTests(String readme) {
        Due.topic("README.md, tests");
        Due.holds("how to run them", readme.contains(".ci/run"));
        for (File file : new File("src/test/java").listFiles()) {
            String name = file.getName().replace(".java", "");
            Due.holds(name + " is named", readme.contains("`" + name + "`"));
        }
    }

    private static void showsWhatIsSo(String readme) throws Exception {
        Due.topic("README.md, what it shows");
        Path built = Files.createTempDirectory("readme");
        Path file = Files.writeString(built.resolve("Shown.java"), program(readme));
        JavaCompiler compiler = ToolProvider.getSystemJavaCompiler();
        String classes = System.getProperty("java.class.path");
        int failed = compiler.run(null, null, null, "-cp", classes, "-d", built.toString(), file.toString());
        Due.is("the compiler", failed, 0);
        if (failed == 0) compareAnswers(built);
        for (File left : built.toFile().listFiles()) left.delete();
        Files.delete(built);
    }

    /** All that is shown, each piece in a block of its own, since each begins with an object of its own. */
    private static String program(String readme) {
        StringBuilder program = new StringBuilder(HEAD);
        Matcher shown = SHOWN.matcher(readme);
        while (shown.find()) {
            program.append("{\n");
            for (String line : shown.group(1).split("\n")) program.append(line).append('\n').append(noted(line));
            program.append("}\n");
        }
        return program.append(FOOT).toString();
    }

    /** What a line says that it answers, beside what it answers. */
    private static String noted(String line) {
        Matcher answer = ANSWER.matcher(line);
        if (!answer.matches()) return "";
        String call = answer.group(2);
        String name = answer.group(1);
        return "answers.add(new Object[] {\"" + call + "\", " + name + ", " + answer.group(3) + "});\n";
    }

    private static void compareAnswers(Path built) throws Exception {
        try (URLClassLoader loader = new URLClassLoader(new URL[] {built.toUri().toURL()})) {
            List<?> answers = (List<?>) loader.loadClass("Shown").getMethod("all").invoke(null);
            Due.holds("something is shown", !answers.isEmpty());
            for (Object answer : answers) {
                Object[] told = (Object[]) answer;
                Due.is((String) told[0], (Integer) told[1], (Integer) told[2]);
            }
        }
    }
}
