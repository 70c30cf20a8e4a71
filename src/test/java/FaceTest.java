import java.lang.reflect.Constructor;
import java.lang.reflect.Field;
import java.lang.reflect.Method;
import java.lang.reflect.Modifier;
import java.util.ArrayList;
import java.util.List;
import java.util.Set;
import java.util.TreeSet;

/** The public face is the document's and nothing more; LANGUAGE.md, rules 1 and 5. */
final class FaceTest {
    private static final List<String> METHODS = List.of(
        "int feed(int,int,int,int,int)", "boolean end(int)", "int text()", "int fault()", "int now(int)",
        "int account(int,int)", "int journal(int,int)", "int piece(int,int,int)", "int direct(int,int,int,int)",
        "int indirect(int,int,int)", "int change(int,int)", "int makes(int,int,int)", "int deals(int,int,int,int)",
        "int balance(int,int)", "int traced()", "int post(int,int,int,int)", "int more(int,int,int,int)",
        "int strike(int)", "boolean tell(int,int)", "int turn(int,int)", "int undo()");

    public static void main(String[] args) {
        Checks.due("NONE", CashDeriver.NONE, -1);
        int modifiers = CashDeriver.class.getModifiers();
        Checks.due("public final", Modifier.isPublic(modifiers) && Modifier.isFinal(modifiers), true);
        checkMethods();
        checkConstructors();
        checkFields();
        checkClassesInside();
        Checks.finish();
    }

    private static void checkMethods() {
        Set<String> shown = new TreeSet<>();
        Set<String> names = new TreeSet<>();
        for (Method method : CashDeriver.class.getDeclaredMethods()) {
            if (Modifier.isPublic(method.getModifiers())) {
                shown.add(written(method));
                names.add(method.getName());
            }
        }
        if (!shown.equals(new TreeSet<>(METHODS))) {
            Checks.complain("the public methods are " + shown);
        }
        for (Method method : CashDeriver.class.getDeclaredMethods()) {
            int modifiers = method.getModifiers();
            if (!Modifier.isPublic(modifiers) && (!Modifier.isPrivate(modifiers) || names.contains(method.getName()))) {
                Checks.complain("not private, or named like a public one: " + method);
            }
        }
    }

    private static String written(Method method) {
        List<String> parameters = new ArrayList<>();
        for (Class<?> type : method.getParameterTypes()) {
            parameters.add(type.getName());
        }
        return method.getReturnType().getName() + " " + method.getName() + "(" + String.join(",", parameters) + ")";
    }

    private static void checkConstructors() {
        Constructor<?>[] all = CashDeriver.class.getDeclaredConstructors();
        Checks.due("constructors", all.length, 1);
        Checks.due("public, without parameters",
            Modifier.isPublic(all[0].getModifiers()) && all[0].getParameterCount() == 0, true);
    }

    private static void checkFields() {
        for (Field field : CashDeriver.class.getDeclaredFields()) {
            int modifiers = field.getModifiers();
            boolean constant = Modifier.isStatic(modifiers) && Modifier.isFinal(modifiers);
            if (!Modifier.isPrivate(modifiers) && !(field.getName().equals("NONE") && constant)) {
                Checks.complain("not private: " + field);
            }
            if (Modifier.isStatic(modifiers) && !constant) {
                Checks.complain("static and not final: " + field);
            }
        }
    }

    private static void checkClassesInside() {
        for (Class<?> inside : CashDeriver.class.getDeclaredClasses()) {
            int modifiers = inside.getModifiers();
            if (!Modifier.isStatic(modifiers) || Modifier.isPublic(modifiers) || Modifier.isProtected(modifiers)) {
                Checks.complain("not static, or seen from outside: " + inside);
            }
        }
    }
}
