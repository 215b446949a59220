import java.io.File;
import java.io.IOException;
import java.io.PrintWriter;
import java.io.StringWriter;
import java.nio.file.Files;
import java.nio.file.Path;
import java.util.ArrayList;
import java.util.HashMap;
import java.util.List;
import java.util.Map;
import java.util.Optional;
import java.util.Set;
import java.util.TreeSet;
import java.util.regex.Matcher;
import java.util.regex.Pattern;
import java.util.spi.ToolProvider;
import java.util.stream.Stream;

/**
 * LANGUAGE.md, rules 4, 8 and 11, by the compiled code: what of the library is called, that no method
 * calls itself, and how deep calls go. It reads what javap tells of the classes on the class path.
 */
public final class CallsTest {
    private static final int DEEPEST = 8;
    private static final Set<String> LIBRARY = Set.of("java/lang/Object.<init>:()V",
        "java/lang/IllegalStateException.<init>:(Ljava/lang/String;)V", "java/lang/IllegalArgumentException.<init>:(Ljava/lang/String;)V",
        "java/lang/System.arraycopy:(Ljava/lang/Object;ILjava/lang/Object;II)V", "java/util/Arrays.fill:([II)V",
        "java/util/Arrays.fill:([JJ)V", "java/util/Arrays.fill:([BB)V", "java/lang/Math.abs:(I)I", "java/lang/Math.max:(II)I",
        "java/lang/Math.min:(II)I", "java/lang/Math.floorDiv:(II)I");
    private static final Pattern CLASS = Pattern.compile("^(?:[\\w ]* )?class (RunJudge[\\w$]*) .*\\{$");
    private static final Pattern HEAD = Pattern.compile("^  [\\w\\[\\]$., ]*?([\\w$]+)\\(.*\\).*;$");
    private static final Pattern DESCRIPTOR = Pattern.compile("^    descriptor: (.*)$");
    private static final Pattern INVOKE = Pattern.compile("^ +\\d+: invoke(\\w+) +#\\S+ +// (?:Interface)?(?:Method|InterfaceMethod|InvokeDynamic) (\\S+)$");

    /** From a method (class.name:descriptor) to those of the program that it calls. */
    private static final Map<String, Set<String>> CALLS = new HashMap<>();

    public static void main(String[] args) throws IOException {
        Optional<ToolProvider> javap = ToolProvider.findFirst("javap");
        if (javap.isEmpty()) {
            System.out.println("CallsTest: there is no javap here, nothing was looked at");
            return;
        }
        for (Path c : classes()) read(textOf(javap.get(), c));
        Check.due("methods were read", CALLS.size() > 36 ? 1 : 0, 1);
        for (String m : new ArrayList<>(CALLS.keySet())) {
            Check.due("calls below " + m + " go at most " + DEEPEST + " deep", depthOf(m, new ArrayList<>()) <= DEEPEST ? 1 : 0, 1);
        }
        Check.end("CallsTest");
    }

    private static List<Path> classes() throws IOException {
        List<Path> found = new ArrayList<>();
        for (String folder : System.getProperty("java.class.path").split(File.pathSeparator)) {
            if (!Files.isDirectory(Path.of(folder))) continue;
            try (Stream<Path> files = Files.list(Path.of(folder))) {
                for (Path f : files.toList()) if (f.getFileName().toString().matches("RunJudge(\\$\\w+)?\\.class")) found.add(f);
            }
        }
        return found;
    }

    private static String textOf(ToolProvider javap, Path c) {
        StringWriter text = new StringWriter();
        PrintWriter out = new PrintWriter(text);
        Check.due("javap reads " + c, javap.run(out, out, "-c", "-p", "-s", c.toString()), 0);
        return text.toString();
    }

    private static void read(String text) {
        String owner = "", name = "", method = "";
        for (String line : text.split("\\R")) {
            Matcher m = CLASS.matcher(line);
            if (m.matches()) owner = m.group(1);
            m = HEAD.matcher(line);
            if (m.matches()) name = m.group(1).startsWith("RunJudge") ? "\"<init>\"" : m.group(1);
            m = DESCRIPTOR.matcher(line);
            if (m.matches() && m.group(1).startsWith("(")) {
                method = owner + "." + name + ":" + m.group(1);
                CALLS.put(method, new TreeSet<>());
            }
            m = INVOKE.matcher(line);
            if (m.matches()) note(owner, method, m.group(1), m.group(2));
        }
    }

    private static void note(String owner, String from, String how, String to) {
        Check.due(from + " makes no dynamic call", how.equals("dynamic") ? 1 : 0, 0);
        // javap leaves a class's own name out, and puts a constructor's name in quotes
        String whole = to.contains(".") && to.indexOf('.') < to.indexOf(':') ? to : owner + "." + to;
        if (whole.startsWith("RunJudge")) CALLS.get(from).add(whole);
        else Check.due(from + " calls " + whole, LIBRARY.contains(whole.replace("\"", "")) ? 1 : 0, 1);
    }

    private static int depthOf(String method, List<String> above) {
        Check.due(method + " calls itself by way of " + above, above.contains(method) ? 1 : 0, 0);
        Check.due(method + " was read", CALLS.containsKey(method) ? 1 : 0, 1);
        if (above.contains(method) || !CALLS.containsKey(method)) return 1;
        above.add(method);
        int deepest = 0;
        for (String to : CALLS.get(method)) deepest = Math.max(deepest, depthOf(to, above));
        above.remove(method);
        return deepest + 1;
    }
}
