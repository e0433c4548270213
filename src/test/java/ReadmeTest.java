import java.io.IOException;
import java.lang.reflect.InvocationTargetException;
import java.lang.reflect.Method;
import java.nio.file.Files;
import java.nio.file.Path;
import java.util.ArrayList;
import java.util.Arrays;
import java.util.List;
import java.util.regex.Matcher;
import java.util.regex.Pattern;

/** The calls that README.md shows, each with the answer that it tells. */
public final class ReadmeTest {
    private static final Pattern CALL = Pattern.compile("bank\\.(\\w+)\\((.*?)\\);\\s+// (throws \\w+|-?\\d+).*");

    private ReadmeTest() { }

    public static void main(String[] args) throws IOException, ReflectiveOperationException {
        TermBank bank = new TermBank();
        List<String> calls = calls();
        Checks.due("README.md shows calls", calls.size() > 20 ? 1 : 0, 1);
        for (String line : calls) {
            Matcher call = CALL.matcher(line);
            if (!call.matches()) {
                Checks.due("a call with its answer: " + line, 0, 1);
                continue;
            }
            String got = answer(bank, call.group(1), numbers(call.group(2)));
            Checks.due(line + " is " + got, got.equals(call.group(3)) ? 1 : 0, 1);
        }
        Checks.end();
    }

    private static List<String> calls() throws IOException {
        List<String> calls = new ArrayList<>();
        for (String line : Files.readAllLines(Path.of("README.md"))) {
            if (line.startsWith("bank.")) {
                calls.add(line);
            }
        }
        return calls;
    }

    private static Integer[] numbers(String told) {
        if (told.isEmpty()) {
            return new Integer[0];
        }
        String[] parts = told.split(", ");
        Integer[] numbers = new Integer[parts.length];
        for (int k = 0; k < parts.length; k++) {
            numbers[k] = Long.decode(parts[k]).intValue();
        }
        return numbers;
    }

    private static String answer(TermBank bank, String name, Integer[] numbers) throws ReflectiveOperationException {
        Class<?>[] types = new Class<?>[numbers.length];
        Arrays.fill(types, int.class);
        Method method = TermBank.class.getMethod(name, types);
        try {
            return String.valueOf(method.invoke(bank, (Object[]) numbers));
        } catch (InvocationTargetException e) {
            return "throws " + e.getCause().getClass().getSimpleName();
        }
    }
}
