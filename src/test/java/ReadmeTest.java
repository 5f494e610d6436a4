import java.io.ByteArrayOutputStream;
import java.io.IOException;
import java.io.PrintStream;
import java.net.URL;
import java.net.URLClassLoader;
import java.nio.file.Files;
import java.nio.file.Path;
import java.util.ArrayList;
import java.util.Comparator;
import java.util.List;
import java.util.regex.Matcher;
import java.util.regex.Pattern;
import java.util.stream.Stream;
import javax.tools.ToolProvider;

/** Compiles and runs the example of README.md; what it prints must be what stands behind // there. */
public final class ReadmeTest {
    private static final Pattern ANSWER = Pattern.compile("System\\.out\\.println\\((.*)\\);\\s*// (-?\\d+)(:.*)?");

    public static void main(String[] args) throws Exception {
        List<String> example = example(Files.readAllLines(Path.of("README.md")));
        List<String> calls = new ArrayList<>();
        List<String> due = new ArrayList<>();
        int wrong = readAnswers(example, calls, due);
        List<String> got = run(example);
        if (due.isEmpty() || got.size() != due.size()) {
            wrong++;
            System.out.println("README.md tells " + due.size() + " answers, its example gives " + got.size());
        }
        for (int i = 0; i < Math.min(got.size(), due.size()); i++) {
            if (!got.get(i).equals(due.get(i))) {
                wrong++;
                System.out.println(calls.get(i) + " answered " + got.get(i) + ", README.md tells " + due.get(i));
            }
        }
        System.out.println(wrong == 0 ? due.size() + " answers are as due" : wrong + " answers are wrong");
        if (wrong != 0) {
            System.exit(1);
        }
    }

    private static List<String> example(List<String> readme) {
        int begin = readme.indexOf("```java") + 1;
        int length = readme.subList(begin, readme.size()).indexOf("```");
        return readme.subList(begin, begin + Math.max(length, 0));
    }

    /** The calls of the example and what stands behind them; how many have no answer there. */
    private static int readAnswers(List<String> example, List<String> calls, List<String> due) {
        int without = 0;
        for (String line : example) {
            Matcher matcher = ANSWER.matcher(line.trim());
            if (matcher.matches()) {
                calls.add(matcher.group(1));
                due.add(matcher.group(2));
            } else if (line.contains("println")) {
                without++;
                System.out.println("README.md tells no answer: " + line.trim());
            }
        }
        return without;
    }

    private static List<String> run(List<String> example) throws Exception {
        Path directory = Files.createTempDirectory("readme");
        try {
            Path source = Files.write(directory.resolve("Example.java"), example);
            int failed = ToolProvider.getSystemJavaCompiler().run(null, null, null,
                "-cp", System.getProperty("java.class.path"), "-d", directory.toString(), source.toString());
            return failed != 0 ? List.of() : printedBy(directory);
        } finally {
            delete(directory);
        }
    }

    private static List<String> printedBy(Path directory) throws Exception {
        ByteArrayOutputStream printed = new ByteArrayOutputStream();
        PrintStream before = System.out;
        try (URLClassLoader loader = new URLClassLoader(new URL[] {directory.toUri().toURL()})) {
            System.setOut(new PrintStream(printed, true));
            loader.loadClass("Example").getMethod("main", String[].class).invoke(null, (Object) new String[0]);
        } finally {
            System.setOut(before);
        }
        return printed.toString().lines().toList();
    }

    private static void delete(Path directory) throws IOException {
        try (Stream<Path> all = Files.walk(directory)) {
            for (Path path : all.sorted(Comparator.reverseOrder()).toList()) {
                Files.delete(path);
            }
        }
    }
}
