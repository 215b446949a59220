import java.io.IOException;
import java.lang.reflect.Field;
import java.lang.reflect.Method;
import java.lang.reflect.Modifier;
import java.nio.file.Files;
import java.nio.file.Path;
import java.util.List;
import java.util.regex.Matcher;
import java.util.regex.Pattern;

/** What of LANGUAGE.md can be seen from the class's text and members; the path of the text is the test's argument. */
public final class LanguageTest {
    private static final int MOST_LINES = 60, MOST_PARAMETERS = 7, MOST_CLASSES = 12, MOST_FIELDS = 20;
    private static final String[] FORBIDDEN = {"->", "::", "\\bfinally\\b", "\\bsynchronized\\b", "\\bassert\\b", "Exact\\(",
        "\\bSystem\\.(?!arraycopy)", "\\bThread\\b", "\\bRandom\\b", "\\bObject\\b", "@\\w", "\\bdouble\\b", "\\bfloat\\b",
        "\\bNaN\\b", "\\bextends Exception\\b", "getMessage", "\\bMath\\.random\\b", "\\bvar\\b", "static \\{", "\\.\\.\\."};
    private static final String[] MACHINES = {"ArrayIndexOutOfBoundsException", "NullPointerException", "ArithmeticException",
        "ClassCastException", "NegativeArraySizeException", "ArrayStoreException", "RuntimeException", "Throwable",
        "IndexOutOfBoundsException", "Exception", "Error"};

    public static void main(String[] args) throws IOException {
        Path text = Path.of(args.length > 0 ? args[0] : "src/main/java/RunJudge.java");
        List<String> lines = Files.readAllLines(text);
        checkWords(lines);
        checkLengths(lines);
        checkMembers();
        Check.end("LanguageTest");
    }

    private static String codeOf(String line) {
        String code = line.replaceAll("\"[^\"]*\"", "\"\"").replaceAll("//.*", "");
        return code.strip().startsWith("*") || code.strip().startsWith("/*") ? "" : code;
    }

    private static void checkWords(List<String> lines) {
        for (int i = 0; i < lines.size(); i++) {
            String code = codeOf(lines.get(i));
            for (String f : FORBIDDEN) Check.due("line " + (i + 1) + " has " + f, Pattern.compile(f).matcher(code).find() ? 1 : 0, 0);
            for (String m : MACHINES) {
                Check.due("line " + (i + 1) + " catches " + m, Pattern.compile("catch \\((final )?" + m + "\\b").matcher(code).find() ? 1 : 0, 0);
            }
            if (code.startsWith("import")) Check.due("line " + (i + 1) + " imports Arrays", code.equals("import java.util.Arrays;") ? 1 : 0, 1);
            for (char c : lines.get(i).toCharArray()) Check.due("line " + (i + 1) + " has a sign above 127", c > 127 ? 1 : 0, 0);
        }
    }

    /** A method begins with a line that ends in ") {" at the indent of members and ends with "}" at the same indent. */
    private static void checkLengths(List<String> lines) {
        Pattern head = Pattern.compile("^( {4}| {8})(?! )[\\w<>\\[\\], ]+\\(.*\\)( throws .*)? \\{$");
        for (int i = 0; i < lines.size(); i++) {
            Matcher m = head.matcher(lines.get(i));
            if (!m.matches() || lines.get(i).strip().matches("(if|for|while|switch|return|\\}).*")) continue;
            int end = i + 1;
            while (end < lines.size() && !lines.get(end).equals(m.group(1) + "}")) end++;
            Check.due("the method in line " + (i + 1) + " is short", end - i + 1 <= MOST_LINES ? 1 : 0, 1);
        }
    }

    private static void checkMembers() {
        Class<?>[] inside = RunJudge.class.getDeclaredClasses();
        Check.due("classes", inside.length + 1 <= MOST_CLASSES ? 1 : 0, 1);
        checkMembersOf(RunJudge.class);
        for (Class<?> c : inside) checkMembersOf(c);
    }

    private static void checkMembersOf(Class<?> c) {
        int fields = 0;
        for (Field f : c.getDeclaredFields()) {
            if (Modifier.isStatic(f.getModifiers())) Check.due(f + " is final", Modifier.isFinal(f.getModifiers()) ? 1 : 0, 1);
            else fields++;
        }
        Check.due("fields of " + c, fields <= MOST_FIELDS ? 1 : 0, 1);
        for (Method m : c.getDeclaredMethods()) {
            Check.due("parameters of " + m, m.getParameterCount() <= MOST_PARAMETERS ? 1 : 0, 1);
            if (c != RunJudge.class) Check.due(m + " is not public", Modifier.isPublic(m.getModifiers()) ? 1 : 0, 0);
        }
    }
}
