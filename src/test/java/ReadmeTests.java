import java.io.IOException;
import java.lang.reflect.Method;
import java.net.URL;
import java.net.URLClassLoader;
import java.nio.file.Files;
import java.nio.file.Path;
import java.util.ArrayList;
import java.util.List;
import java.util.Set;
import java.util.TreeSet;
import java.util.regex.Matcher;
import java.util.regex.Pattern;
import java.util.stream.Stream;
import javax.tools.JavaCompiler;
import javax.tools.ToolProvider;

/** README.md: its lines of Java are compiled as they stand, and each call answers what is said behind it. */
public final class ReadmeTests {
    private static final Path README = Path.of("README.md");
    private static final Path TESTS = Path.of("src/test/java");
    private static final Path OUT = Path.of("build/readme");
    private static final Pattern ANSWERED = Pattern.compile("^((?:int|long) \\w+ = )?(x\\.\\w+\\(.*\\));\\s*// (-?\\d+)\\b.*$");
    private static final int LEAST_LINES = 30;

    private static int wrong = 0;

    public static void main(String[] args) throws Exception {
        String readme = Files.readString(README);
        testsAreNamed(readme);
        examples(readme);
        System.out.println(wrong == 0 ? "README.md is so" : wrong + " lines of README.md are not so");
        if (wrong != 0) {
            System.exit(1);
        }
    }

    private static void hold(boolean so, String what) {
        if (!so) {
            wrong++;
            System.out.println(what);
        }
    }

    private static void testsAreNamed(String readme) throws IOException {
        Set<String> there = new TreeSet<>();
        try (Stream<Path> files = Files.list(TESTS)) {
            files.forEach(file -> there.add(file.getFileName().toString().replace(".java", "")));
        }
        Set<String> named = new TreeSet<>();
        Matcher names = Pattern.compile("`(\\w+(?:Tests|Edges))`").matcher(readme);
        while (names.find()) {
            named.add(names.group(1));
        }
        hold(named.equals(there), "the tests are " + there + ", README.md names " + named);
    }

    private static void examples(String readme) throws Exception {
        int start = readme.indexOf("```java\n");
        int end = readme.indexOf("\n```", Math.max(start, 0) + 8);
        if (start < 0 || end < 0) {
            hold(false, "README.md has no lines of Java");
            return;
        }
        int answered = 0;
        List<String> body = new ArrayList<>();
        for (String line : readme.substring(start + 8, end).split("\n")) {
            Matcher m = ANSWERED.matcher(line);
            if (m.matches()) {
                answered++;
                String to = m.group(1) == null ? "" : m.group(1);
                body.add(to + "due(\"" + m.group(2) + "\", " + m.group(2) + ", " + m.group(3) + ");");
            } else {
                body.add(line);
            }
        }
        hold(answered >= LEAST_LINES, "only " + answered + " lines of README.md tell an answer");
        run(body);
    }

    private static void run(List<String> body) throws Exception {
        Files.createDirectories(OUT);
        Path file = OUT.resolve("Example.java");
        Files.writeString(file, "public final class Example {\n"
            + "private static int wrong = 0;\n"
            + "private static int due(String call, int got, int want) {\n"
            + "return (int) due(call, (long) got, (long) want);\n}\n"
            + "private static long due(String call, long got, long want) {\n"
            + "if (got != want) {\nwrong++;\nSystem.out.println(call + \" answered \" + got + \", README.md says \" + want);\n}\n"
            + "return got;\n}\n"
            + "public static int example() {\n" + String.join("\n", body) + "\nreturn wrong;\n}\n}\n");
        JavaCompiler compiler = ToolProvider.getSystemJavaCompiler();
        if (compiler == null) {
            System.out.println("this java has no compiler in it: the lines of README.md were not tried");
            return;
        }
        int failed = compiler.run(null, null, null, "-encoding", "UTF-8", "-cp", System.getProperty("java.class.path"),
            "-d", OUT.toString(), file.toString());
        hold(failed == 0, "the lines of README.md do not compile");
        if (failed != 0) {
            return;
        }
        try (URLClassLoader loader = new URLClassLoader(new URL[] {OUT.toUri().toURL()})) {
            Method example = loader.loadClass("Example").getMethod("example");
            wrong += (Integer) example.invoke(null);
        }
    }
}
