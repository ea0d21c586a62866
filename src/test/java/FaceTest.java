import java.lang.reflect.Constructor;
import java.lang.reflect.Field;
import java.lang.reflect.Method;
import java.lang.reflect.Modifier;
import java.util.ArrayList;
import java.util.Collections;
import java.util.List;

/** The class has the document's face, and nothing else that can be seen from outside. */
public final class FaceTest {
    private static final String STATE = " throws IllegalStateException";
    private static final String BOTH = " throws IllegalArgumentException IllegalStateException";

    private static final List<String> FACE = List.of(
            "int file(int)" + BOTH,
            "int change(int int int int)" + BOTH,
            "long get(int int)",
            "long disk(int int)",
            "int end(int boolean)" + BOTH,
            "int save(int int)" + BOTH,
            "int restore(int)" + BOTH,
            "int apply(int int)" + BOTH,
            "int remove(int int)" + BOTH,
            "int number(int)",
            "int last()",
            "boolean boundary(int int)",
            "long entry(int int)",
            "int drop()" + STATE,
            "int cut(int)" + BOTH,
            "int start()" + STATE,
            "int link(int int)" + BOTH,
            "int ack()" + STATE,
            "int takeOver()",
            "long remote(int int)");

    public static void main(String[] args) {
        Checks checks = new Checks();
        checks.yes("the class is final", Modifier.isFinal(JournalHouse.class.getModifiers()));
        checks.same("NONE", JournalHouse.NONE, 1099511627776L);
        methods(checks);
        fields(checks);
        constructors(checks);
        checks.finish();
    }

    private static void methods(Checks checks) {
        List<String> seen = new ArrayList<>();
        List<String> publicNames = new ArrayList<>();
        for (Method method : JournalHouse.class.getDeclaredMethods()) {
            if (Modifier.isPrivate(method.getModifiers())) {
                continue;
            }
            checks.yes(method + " is public", Modifier.isPublic(method.getModifiers()));
            seen.add(textOf(method));
            publicNames.add(method.getName());
        }
        List<String> due = new ArrayList<>(FACE);
        Collections.sort(seen);
        Collections.sort(due);
        if (!seen.equals(due)) {
            checks.complain("the face is " + seen + ", due is " + due);
        }
        for (Method method : JournalHouse.class.getDeclaredMethods()) {
            boolean isPrivate = Modifier.isPrivate(method.getModifiers());
            checks.no(method + " bears a public name", isPrivate && publicNames.contains(method.getName()));
        }
    }

    private static String textOf(Method method) {
        List<String> parameters = new ArrayList<>();
        for (Class<?> type : method.getParameterTypes()) {
            parameters.add(type.getSimpleName());
        }
        List<String> thrown = new ArrayList<>();
        for (Class<?> type : method.getExceptionTypes()) {
            thrown.add(type.getSimpleName());
        }
        Collections.sort(thrown);
        String text = method.getReturnType().getSimpleName() + " " + method.getName()
                + "(" + String.join(" ", parameters) + ")";
        return thrown.isEmpty() ? text : text + " throws " + String.join(" ", thrown);
    }

    private static void fields(Checks checks) {
        for (Field field : JournalHouse.class.getDeclaredFields()) {
            boolean isNone = field.getName().equals("NONE");
            int seen = field.getModifiers();
            checks.yes(field + " is private or NONE", isNone ? Modifier.isPublic(seen) : Modifier.isPrivate(seen));
            checks.yes(field + " is final if it is static", !Modifier.isStatic(seen) || Modifier.isFinal(seen));
        }
    }

    private static void constructors(Checks checks) {
        Constructor<?>[] all = JournalHouse.class.getDeclaredConstructors();
        checks.same("constructors", all.length, 1);
        checks.same("parameters of the constructor", all[0].getParameterCount(), 0);
        checks.yes("the constructor is public", Modifier.isPublic(all[0].getModifiers()));
    }
}
