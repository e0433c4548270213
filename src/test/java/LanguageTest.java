import java.io.IOException;
import java.lang.reflect.Field;
import java.lang.reflect.Method;
import java.lang.reflect.Modifier;
import java.nio.charset.StandardCharsets;
import java.nio.file.Files;
import java.nio.file.Path;
import java.util.ArrayList;
import java.util.List;
import java.util.regex.Matcher;
import java.util.regex.Pattern;

/** Those rules of ../shared/LANGUAGE.md that can be seen in the text of the class, or in its members. */
public final class LanguageTest {
    private static final List<String> IMPORTS = List.of("java.util.Arrays", "java.util.NoSuchElementException",
        "java.util.ArrayList", "java.util.List", "java.util.Iterator");
    private static final List<String> THROWN = List.of("IllegalStateException", "IllegalArgumentException",
        "IndexOutOfBoundsException", "ArithmeticException", "UnsupportedOperationException", "NoSuchElementException",
        "RuntimeException");
    /** Not those that the machine throws, or that stand above them. */
    private static final List<String> CAUGHT = List.of("IllegalStateException", "IllegalArgumentException",
        "UnsupportedOperationException", "NoSuchElementException");
    private static final List<String> LIBRARY = List.of("Arrays.fill", "Arrays.copyOf", "Arrays.copyOfRange",
        "System.arraycopy", "Math.max", "Math.min", "Math.abs", "Math.floorDiv", "Math.floorMod", "Integer.bitCount",
        "Integer.compare");
    private static final int METHOD_LINES = 60;
    private static final int PARAMETERS = 7;
    private static final int CLASSES = 12;
    private static final int FIELDS = 20;

    private LanguageTest() { }

    public static void main(String[] args) throws IOException {
        String source = Files.readString(Path.of("src/main/java/TermBank.java"), StandardCharsets.ISO_8859_1);
        signs(source);
        String code = source.replaceAll("(?s)/\\*.*?\\*/", "").replaceAll("//[^\n]*", "");
        each("import", code, "import ([\\w.]+);", IMPORTS);
        each("throw", code, "throw new (\\w+)\\((?:\"[^\"]*\")?\\);", THROWN);
        each("catch", code, "catch \\((\\w+) ", CAUGHT);
        each("library", code, "\\b((?:Arrays|System|Math|Integer|Long|Character|String)\\.\\w+)", LIBRARY);
        Checks.due("each throw makes its exception", count(code, "\\bthrow\\b"), count(code, "throw new \\w+\\((?:\"[^\"]*\")?\\);"));
        for (String out : new String[] {"->", "::", "\\bfinally\\b", "\\bsynchronized\\b", "\\bassert\\b", "static \\{",
            "\\bpackage\\b", "\\bprotected\\b", "getMessage", "\\bhashCode\\b", "\\btoString\\b", "\\bThread\\b"}) {
            Checks.due("none of " + out, count(code, out), 0);
        }
        lengths(source);
        members();
        Checks.end();
    }

    private static void signs(String source) {
        int strange = 0;
        for (int k = 0; k < source.length(); k++) {
            char sign = source.charAt(k);
            strange += sign == '\n' || sign >= 32 && sign < 127 ? 0 : 1;
        }
        Checks.due("signs beyond 32 to 126", strange, 0);
    }

    private static int count(String code, String pattern) {
        Matcher found = Pattern.compile(pattern).matcher(code);
        int times = 0;
        while (found.find()) {
            times++;
        }
        return times;
    }

    private static void each(String what, String code, String pattern, List<String> allowed) {
        Matcher found = Pattern.compile(pattern).matcher(code);
        while (found.find()) {
            Checks.due(what + " of " + found.group(1), allowed.contains(found.group(1)) ? 1 : 0, 1);
        }
    }

    /** A method ends at the first brace that stands as far in as it does. */
    private static void lengths(String source) {
        String[] lines = source.split("\n");
        Pattern head = Pattern.compile("( {4}| {8})\\w[^=;]*\\w\\(.*\\{");
        int methods = 0;
        for (int k = 0; k < lines.length; k++) {
            Matcher found = head.matcher(lines[k]);
            if (!found.matches()) {
                continue;
            }
            int end = k;
            while (end < lines.length && !lines[end].equals(found.group(1) + "}")) {
                end++;
            }
            methods++;
            Checks.due(lines[k].trim() + " has lines: " + (end - k + 1), end - k + 1 > METHOD_LINES ? 1 : 0, 0);
        }
        Checks.due("the methods were seen", methods > 100 ? 1 : 0, 1);
    }

    private static void members() {
        List<Class<?>> all = new ArrayList<>(List.of(TermBank.class.getDeclaredClasses()));
        all.add(TermBank.class);
        Checks.due("classes: " + all.size(), all.size() > CLASSES ? 1 : 0, 0);
        for (Class<?> one : all) {
            int fields = 0;
            for (Field field : one.getDeclaredFields()) {
                boolean isStatic = Modifier.isStatic(field.getModifiers());
                fields += isStatic ? 0 : 1;
                Checks.due(field + " is final, if it is static", isStatic && !Modifier.isFinal(field.getModifiers()) ? 1 : 0, 0);
            }
            Checks.due(one + " has fields: " + fields, fields > FIELDS ? 1 : 0, 0);
            for (Method method : one.getDeclaredMethods()) {
                Checks.due(method + " has few parameters", method.getParameterCount() > PARAMETERS ? 1 : 0, 0);
            }
        }
    }
}
