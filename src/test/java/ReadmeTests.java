import java.io.IOException;
import java.net.URL;
import java.net.URLClassLoader;
import java.nio.file.Files;
import java.nio.file.Path;
import java.util.ArrayList;
import java.util.List;
import java.util.Set;
import java.util.TreeSet;
import java.util.regex.Matcher;
import java.util.regex.Pattern;
import java.util.stream.Stream;
import javax.tools.JavaCompiler;
import javax.tools.ToolProvider;

/** Compiles the example of README.md, compares its answers with its comments, and checks what README.md says of tests. */
public final class ReadmeTests {
    private static final Pattern TOLD = Pattern.compile("\\s*(finder\\.\\w+\\(.*\\));\\s*// (true|false|-?[0-9][0-9.E]*): .*");
    private static final Pattern CALL = Pattern.compile("finder\\.(\\w+)\\(");
    private static final String NAME = "ReadmeExample";

    private static int told = 0;
    private static int answered = 0;
    private static int wrong = 0;

    public static void main(String[] args) throws IOException, ReflectiveOperationException {
        String readme = Files.readString(Path.of("README.md"));
        checkExample(exampleOf(readme));
        checkListOfTests(readme);
        checkScript(readme);
        System.out.println("ReadmeTests: " + answered + " answers of the example, " + wrong + " wrong");
        if (wrong != 0) {
            System.exit(1);
        }
    }

    private static void check(boolean good, String what) {
        if (!good) {
            wrong++;
            System.out.println("README.md: " + what);
        }
    }

    /** The example calls this for each answer that it tells. */
    public static void due(String call, Object got, String want) {
        answered++;
        check(String.valueOf(got).equals(want), call + " answers " + got + ", not " + want);
    }

    private static List<String> exampleOf(String readme) {
        List<String> lines = new ArrayList<>();
        int blocks = 0;
        boolean inside = false;
        for (String line : readme.split("\n")) {
            if (line.startsWith("```")) {
                inside = line.equals("```java");
                blocks += inside ? 1 : 0;
            } else if (inside) {
                lines.add(line);
            }
        }
        check(blocks == 1, "it has " + blocks + " examples, not one");
        return lines;
    }

    private static void checkExample(List<String> lines) throws IOException, ReflectiveOperationException {
        // The example as it is, too, so that what a reader copies is what is compiled.
        StringBuilder plain = new StringBuilder();
        StringBuilder asked = new StringBuilder();
        for (String line : lines) {
            plain.append(line).append('\n');
            asked.append(askedLine(line)).append('\n');
        }
        Path directory = Files.createDirectories(Path.of("build/readme"));
        Path source = directory.resolve(NAME + ".java");
        Files.writeString(source, "public final class " + NAME + " {\n    public static void plain() {\n" + plain
            + "    }\n\n    public static void asked() {\n" + asked + "    }\n}\n");
        JavaCompiler compiler = ToolProvider.getSystemJavaCompiler();
        String path = System.getProperty("java.class.path");
        boolean compiled = compiler != null
            && compiler.run(null, null, null, "-cp", path, "-d", directory.toString(), source.toString()) == 0;
        check(compiled, "the example does not compile");
        if (compiled) {
            runExample(directory);
        }
        check(told >= 20 && answered == told, told + " answers are told, and " + answered + " were given");
    }

    private static void runExample(Path directory) throws IOException, ReflectiveOperationException {
        URL[] places = {directory.toUri().toURL()};
        try (URLClassLoader loader = new URLClassLoader(places, ReadmeTests.class.getClassLoader())) {
            Class<?> example = loader.loadClass(NAME);
            example.getMethod("plain").invoke(null);
            example.getMethod("asked").invoke(null);
        } catch (java.lang.reflect.InvocationTargetException e) {
            check(false, "the example throws " + e.getCause());
        }
    }

    private static String askedLine(String line) {
        Matcher matcher = TOLD.matcher(line);
        if (!matcher.matches()) {
            // An answer that this pattern misses would go unchecked.
            check(!line.matches(".*; *//.*"), "no answer is found in: " + line.trim());
            return line;
        }
        told++;
        String call = matcher.group(1);
        Matcher name = CALL.matcher(call);
        String label = name.find() ? name.group(1) : call;
        return "ReadmeTests.due(\"" + label + ", answer " + told + "\", " + call + ", \"" + matcher.group(2) + "\");";
    }

    private static void checkListOfTests(String readme) throws IOException {
        Set<String> files = new TreeSet<>();
        try (Stream<Path> paths = Files.list(Path.of("src/test/java"))) {
            paths.forEach(path -> files.add(path.getFileName().toString().replace(".java", "")));
        }
        Set<String> named = new TreeSet<>();
        Matcher matcher = Pattern.compile("`(\\w+Tests)`").matcher(readme);
        while (matcher.find()) {
            named.add(matcher.group(1));
        }
        check(named.equals(files), "it names the tests " + named + ", and there are " + files);
    }

    private static void checkScript(String readme) {
        check(readme.contains("\n    .ci/run\n"), "it does not tell how to run the tests");
        check(Files.isExecutable(Path.of(".ci/run")), ".ci/run can't be executed as it says");
        for (String place : new String[] {"src/main/java/ReductionFinder.java", "src/test/support/Checks.java"}) {
            check(readme.contains(place) && Files.isRegularFile(Path.of(place)), place + " is not where it says");
        }
    }
}
