import java.lang.reflect.Constructor;
import java.lang.reflect.Field;
import java.lang.reflect.Method;
import java.lang.reflect.Modifier;
import java.util.Arrays;
import java.util.Set;
import java.util.TreeSet;

/** The public face is the document's, and nothing else can be seen from outside. */
public final class FaceTest {
    private static final String[] FACE = {
        "int application(int)", "int task(int,long)", "int region(int,long,long)",
        "int holds(int,int,int)", "int fault(int,int)", "int cleaned(int,int)",
        "int hook(int,int,boolean)", "int arrival(int,long)", "int trusted(int,long)",
        "int access(int,long)", "int state(int)", "int log(int,int)"
    };

    public static void main(String[] args) {
        Check check = new Check();
        int modifiers = ProtectHooks.class.getModifiers();
        check.due("public", Modifier.isPublic(modifiers) ? 1 : 0, 1);
        check.due("final", Modifier.isFinal(modifiers) ? 1 : 0, 1);
        methods(check);
        constructorsAndFields(check);
        classesInside(check);
        check.end();
    }

    private static void methods(Check check) {
        Set<String> open = new TreeSet<>();
        Set<String> openNames = new TreeSet<>();
        Set<String> closedNames = new TreeSet<>();
        for (Method method : ProtectHooks.class.getDeclaredMethods()) {
            if (Modifier.isPrivate(method.getModifiers())) {
                closedNames.add(method.getName());
            } else {
                open.add(written(method));
                openNames.add(method.getName());
            }
        }
        Set<String> face = new TreeSet<>(Arrays.asList(FACE));
        check.due("methods " + open, open.equals(face) ? 1 : 0, 1);
        closedNames.retainAll(openNames);
        check.due("private methods named like public ones " + closedNames, closedNames.size(), 0);
    }

    private static String written(Method method) {
        StringBuilder text = new StringBuilder();
        text.append(method.getReturnType().getName()).append(' ').append(method.getName()).append('(');
        String comma = "";
        for (Class<?> type : method.getParameterTypes()) {
            text.append(comma).append(type.getName());
            comma = ",";
        }
        return text.append(')').toString();
    }

    private static void constructorsAndFields(Check check) {
        Constructor<?>[] constructors = ProtectHooks.class.getDeclaredConstructors();
        check.due("constructors", constructors.length, 1);
        check.due("its parameters", constructors[0].getParameterCount(), 0);
        check.due("it is public", Modifier.isPublic(constructors[0].getModifiers()) ? 1 : 0, 1);
        for (Field field : ProtectHooks.class.getDeclaredFields()) {
            int modifiers = field.getModifiers();
            check.due("private " + field.getName(), Modifier.isPrivate(modifiers) ? 1 : 0, 1);
            boolean changes = Modifier.isStatic(modifiers) && !Modifier.isFinal(modifiers);
            check.due("static that changes " + field.getName(), changes ? 1 : 0, 0);
        }
    }

    private static void classesInside(Check check) {
        for (Class<?> inside : ProtectHooks.class.getDeclaredClasses()) {
            int modifiers = inside.getModifiers();
            check.due("static " + inside.getName(), Modifier.isStatic(modifiers) ? 1 : 0, 1);
            check.due("public " + inside.getName(), Modifier.isPublic(modifiers) ? 1 : 0, 0);
        }
    }
}
