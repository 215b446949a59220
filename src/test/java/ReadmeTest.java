import java.io.IOException;
import java.io.PrintWriter;
import java.io.StringWriter;
import java.lang.reflect.InvocationTargetException;
import java.lang.reflect.Method;
import java.lang.reflect.Modifier;
import java.net.URL;
import java.net.URLClassLoader;
import java.nio.file.Files;
import java.nio.file.Path;
import java.util.ArrayList;
import java.util.List;
import java.util.spi.ToolProvider;
import java.util.regex.Matcher;
import java.util.regex.Pattern;
import java.util.stream.Stream;

/**
 * README.md as it stands: its examples are compiled and run, each call's answer set against the number behind it, and
 * it names every call of the face and every test.
 */
public final class ReadmeTest {
    private static final Pattern CALL = Pattern.compile("^(\\s*)(judge\\.\\w+\\(.*\\));\\s+// (-?\\d+)(:.*)?$");

    private static final Pattern TRUTH = Pattern.compile("^\\s*boolean (\\w+) = .*;\\s+// (true|false)(:.*)?$");

    public static void main(String[] args) throws Exception {
        List<String> readme = Files.readAllLines(Path.of(args.length > 0 ? args[0] : "README.md"));
        List<List<String>> examples = examplesOf(readme);
        Check.due("README.md has examples", examples.isEmpty() ? 0 : 1, 1);
        run(sourceOf(examples));
        checkNames(String.join("\n", readme));
        Check.end("ReadmeTest");
    }

    private static List<List<String>> examplesOf(List<String> readme) {
        List<List<String>> examples = new ArrayList<>();
        boolean inside = false;
        for (String line : readme) {
            if (line.equals("```java")) examples.add(new ArrayList<>());
            else if (inside && !line.equals("```")) examples.get(examples.size() - 1).add(line);
            if (line.startsWith("```")) inside = line.equals("```java");
        }
        return examples;
    }

    /** Each example becomes a method; a call with a number behind it becomes a question for that answer. */
    private static String sourceOf(List<List<String>> examples) {
        StringBuilder source = new StringBuilder("public final class ReadmeExamples {\n");
        source.append("static void due(String call, long got, long want) { if (got != want) throw new AssertionError(call + \" answered \" + got); }\n");
        for (int i = 0; i < examples.size(); i++) {
            source.append("public static void example").append(i).append("() {\n");
            for (String line : examples.get(i)) {
                Matcher m = CALL.matcher(line);
                if (m.matches()) source.append("due(\"").append(m.group(2)).append("\", ").append(m.group(2)).append(", ").append(m.group(3)).append("L);\n");
                else source.append(line).append('\n');
                Matcher truth = TRUTH.matcher(line);
                if (truth.matches()) source.append("due(\"").append(truth.group(1)).append("\", ").append(truth.group(1)).append(" == ").append(truth.group(2)).append(" ? 1 : 0, 1);\n");
                boolean isCall = line.strip().startsWith("judge.") && !line.contains("judge.at(1, 0)");
                Check.due("an answer is told: " + line, isCall && !m.matches() ? 1 : 0, 0);
            }
            source.append("}\n");
        }
        return source.append("}\n").toString();
    }

    private static void run(String source) throws Exception {
        Path folder = Files.createTempDirectory("readme");
        Path file = folder.resolve("ReadmeExamples.java");
        try {
            Files.writeString(file, source);
            StringWriter said = new StringWriter();
            PrintWriter out = new PrintWriter(said);
            int code = ToolProvider.findFirst("javac").orElseThrow().run(out, out, "--release", "17",
                "-cp", System.getProperty("java.class.path"), "-d", folder.toString(), file.toString());
            Check.due("the examples compile: " + said, code, 0);
            if (code != 0) return;
            try (URLClassLoader loader = new URLClassLoader(new URL[] {folder.toUri().toURL()})) {
                for (Method m : loader.loadClass("ReadmeExamples").getDeclaredMethods()) {
                    if (Modifier.isPublic(m.getModifiers())) runOne(m);
                }
            }
        } finally {
            wipe(folder);
        }
    }

    private static void runOne(Method example) throws IllegalAccessException {
        String fault = "";
        try {
            example.invoke(null);
        } catch (InvocationTargetException e) {
            fault = e.getCause().toString();
        }
        Check.due(example.getName() + " " + fault, fault.isEmpty() ? 0 : 1, 0);
    }

    private static void wipe(Path folder) throws IOException {
        try (Stream<Path> files = Files.list(folder)) {
            for (Path f : files.toList()) Files.delete(f);
        }
        Files.delete(folder);
    }

    private static void checkNames(String readme) throws IOException {
        for (Method m : RunJudge.class.getDeclaredMethods()) {
            if (!Modifier.isPublic(m.getModifiers())) continue;
            Check.due("README.md names " + m.getName(), readme.contains("`" + m.getName() + "`") ? 1 : 0, 1);
        }
        try (Stream<Path> tests = Files.list(Path.of("src/test/java"))) {
            for (Path t : tests.toList()) {
                String name = t.getFileName().toString().replace(".java", "");
                if (name.endsWith("Test")) Check.due("README.md names " + name, readme.contains("| " + name + " |") ? 1 : 0, 1);
            }
        }
        Matcher named = Pattern.compile("(?m)^\\| (\\w+Test) \\|").matcher(readme);
        while (named.find()) {
            Check.due("there is a test " + named.group(1), Files.exists(Path.of("src/test/java", named.group(1) + ".java")) ? 1 : 0, 1);
        }
    }
}
