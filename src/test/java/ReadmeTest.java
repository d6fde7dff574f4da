import java.io.IOException;
import java.net.URL;
import java.net.URLClassLoader;
import java.nio.file.Files;
import java.nio.file.Path;
import java.util.ArrayList;
import java.util.List;
import java.util.Set;
import java.util.TreeSet;
import java.util.regex.Matcher;
import java.util.regex.Pattern;
import java.util.stream.Stream;
import javax.tools.ToolProvider;

/** README.md is true: its example answers what its comments say, and it names the tests that there are. */
final class ReadmeTest {
    private static final Check check = new Check("ReadmeTest");

    /** A call, with its answer at the beginning of the comment; what follows the answer are words. */
    private static final Pattern ANSWERED = Pattern.compile(
            "(?:int (\\w+) = )?(\\w+\\..*);\\s+// (Leaguewheel\\.[A-Z]+|-?\\d+|\"[^\"]*\"|ann|bob)(?:[,:].*)?");

    public static void main(String[] args) throws Exception {
        List<String> readme = Files.readAllLines(Path.of("README.md"));
        List<String> example = example(readme);
        for (String line : example) {
            check.due(line + " [the comment begins with an answer]",
                    ANSWERED.matcher(line).matches(), line.contains("//"));
        }
        int answers = 0;
        for (Object[] answer : answersOf(sourceOf(example))) {
            check.due("the example, " + answer[0], answer[1], answer[2]);
            answers++;
        }
        check.due("the example has answers", answers > 0, true);
        check.due("the classes told", classesTold(readme), classesThere());
        check.due("the runs told", String.join(" ", readme).contains(
                ModelTest.RUNS + " runs of " + ModelTest.CALLS + " calls"), true);
        check.finish();
    }

    private static List<String> example(List<String> readme) {
        int begin = readme.indexOf("```java");
        int end = readme.indexOf("```");
        return begin >= 0 && begin < end ? readme.subList(begin + 1, end) : List.of();
    }

    /** A class with the example in it, which keeps each call with what it answers and what is due. */
    private static String sourceOf(List<String> example) {
        StringBuilder source = new StringBuilder("public class Example {\n"
                + "public static void run(java.util.List<Object[]> answers) {\n");
        for (String line : example) {
            Matcher answered = ANSWERED.matcher(line);
            if (!answered.matches()) {
                source.append(line).append('\n');
                continue;
            }
            String got = answered.group(2);
            if (answered.group(1) != null) {
                got = answered.group(1);
                source.append("int ").append(got).append(" = ").append(answered.group(2)).append(";\n");
            }
            source.append("answers.add(new Object[] {\"").append(answered.group(2)).append("\", ").append(got)
                    .append(", ").append(answered.group(3)).append("});\n");
        }
        return source.append("}}\n").toString();
    }

    private static List<Object[]> answersOf(String source) throws Exception {
        Path folder = Files.createTempDirectory("readme");
        Path file = folder.resolve("Example.java");
        Files.writeString(file, source);
        int failed = ToolProvider.getSystemJavaCompiler().run(null, null, null,
                "-cp", System.getProperty("java.class.path"), "-d", folder.toString(), file.toString());
        check.due("the example compiles", failed, 0);
        List<Object[]> answers = new ArrayList<>();
        try (URLClassLoader loader = new URLClassLoader(new URL[] {folder.toUri().toURL()})) {
            loader.loadClass("Example").getMethod("run", List.class).invoke(null, answers);
        }
        Files.delete(folder.resolve("Example.class"));
        Files.delete(file);
        Files.delete(folder);
        return answers;
    }

    /** The names of classes between backticks, but for exceptions of the library. */
    private static Set<String> classesTold(List<String> readme) {
        Set<String> told = new TreeSet<>();
        Matcher name = Pattern.compile("`([A-Z]\\w+)`").matcher(String.join("\n", readme));
        while (name.find()) {
            if (!name.group(1).endsWith("Exception")) {
                told.add(name.group(1));
            }
        }
        return told;
    }

    private static Set<String> classesThere() throws IOException {
        Set<String> there = new TreeSet<>();
        try (Stream<Path> files = Files.list(Path.of("src", "test", "java"))) {
            files.forEach(file -> there.add(file.getFileName().toString().replaceFirst("\\.java$", "")));
        }
        return there;
    }
}
