import java.lang.reflect.Constructor;
import java.lang.reflect.Field;
import java.lang.reflect.Method;
import java.lang.reflect.Modifier;
import java.util.ArrayList;
import java.util.Collections;
import java.util.List;

/** "The public face": the class has the members that the document lists, with what they throw, and no others. */
public final class FaceTest {
    private static final String NONE_SUCH = " throws NoSuchElementException";
    private static final String ILLEGAL = " throws IllegalArgumentException";
    private static final String[] METHODS = {
        "int feed(int, int, int, int, int)", "int bank(int)" + ILLEGAL, "int fault()", "int count(int)" + NONE_SUCH,
        "int symbol(int, int)" + NONE_SUCH, "int term(int, int)" + NONE_SUCH, "int argument(int, int)" + NONE_SUCH,
        "int place(int, int)" + NONE_SUCH, "int order(int, int)" + NONE_SUCH, "int find(int, int)" + NONE_SUCH,
        "int rule(int, int)" + NONE_SUCH, "int entry(int)" + NONE_SUCH, "int memo(int, int)" + NONE_SUCH,
        "int bound(int)" + NONE_SUCH, "int variable(int)", "int make(int, int, int, int)", "int bind(int, int)",
        "int apply(int)", "int close(int)", "int unify(int, int)", "int match(int, int)", "int common(int, int)",
        "int normal(int)", "int put(int, int, int)", "int rules(int, int)", "int enter(int)", "int leave(int)",
        "int room(int)", "int draw(int, int)", "int undo()",
        "int years(int, int, int)" + NONE_SUCH + ", IllegalArgumentException", "void image()", "boolean restore()"};

    private FaceTest() { }

    public static void main(String[] args) throws ReflectiveOperationException {
        Class<?> bank = TermBank.class;
        Checks.due("public final", bank.getModifiers(), Modifier.PUBLIC | Modifier.FINAL);
        Checks.due("no package", bank.getPackageName().isEmpty() ? 1 : 0, 1);
        methods(bank);
        fields(bank);
        constructors(bank);
        for (Class<?> inside : bank.getDeclaredClasses()) {
            int modifiers = inside.getModifiers();
            Checks.due(inside + " is static, neither public nor protected",
                Modifier.isStatic(modifiers) && !Modifier.isPublic(modifiers) && !Modifier.isProtected(modifiers) ? 1 : 0, 1);
        }
        Checks.end();
    }

    private static void methods(Class<?> bank) {
        List<String> open = new ArrayList<>();
        List<String> names = new ArrayList<>();
        for (Method method : bank.getDeclaredMethods()) {
            if (!Modifier.isPrivate(method.getModifiers())) {
                Checks.due(method + " is public alone", method.getModifiers(), Modifier.PUBLIC);
                open.add(told(method));
                names.add(method.getName());
            }
        }
        List<String> due = new ArrayList<>(List.of(METHODS));
        Collections.sort(open);
        Collections.sort(due);
        Checks.due("methods " + open + "\ndue " + due, open.equals(due) ? 1 : 0, 1);
        for (Method method : bank.getDeclaredMethods()) {
            boolean bearsPublicName = Modifier.isPrivate(method.getModifiers()) && names.contains(method.getName());
            Checks.due(method + " bears a public one's name", bearsPublicName ? 1 : 0, 0);
        }
    }

    private static String told(Method method) {
        StringBuilder text = new StringBuilder(method.getReturnType().getSimpleName()).append(' ').append(method.getName());
        String between = "(";
        for (Class<?> type : method.getParameterTypes()) {
            text.append(between).append(type.getSimpleName());
            between = ", ";
        }
        text.append(method.getParameterCount() == 0 ? "()" : ")");
        between = " throws ";
        for (Class<?> type : method.getExceptionTypes()) {
            text.append(between).append(type.getSimpleName());
            between = ", ";
        }
        return text.toString();
    }

    private static void fields(Class<?> bank) throws ReflectiveOperationException {
        for (Field field : bank.getDeclaredFields()) {
            boolean isNone = field.getName().equals("NONE");
            Checks.due(field + " is hidden", Modifier.isPrivate(field.getModifiers()) ? 1 : 0, isNone ? 0 : 1);
        }
        Field none = bank.getField("NONE");
        Checks.due("NONE is a constant", none.getModifiers(), Modifier.PUBLIC | Modifier.STATIC | Modifier.FINAL);
        Checks.due("NONE", none.getInt(null), -1);
    }

    private static void constructors(Class<?> bank) {
        Constructor<?>[] all = bank.getDeclaredConstructors();
        Checks.due("one constructor", all.length, 1);
        Checks.due("public", all[0].getModifiers(), Modifier.PUBLIC);
        Checks.due("without parameters", all[0].getParameterCount(), 0);
        Checks.due("that throws nothing", all[0].getExceptionTypes().length, 0);
    }
}
