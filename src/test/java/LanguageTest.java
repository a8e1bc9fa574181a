import java.io.IOException;
import java.lang.reflect.Constructor;
import java.lang.reflect.Field;
import java.lang.reflect.Method;
import java.lang.reflect.Modifier;
import java.nio.file.Files;
import java.nio.file.Path;
import java.util.ArrayList;
import java.util.Arrays;
import java.util.List;
import java.util.Set;
import java.util.regex.Matcher;
import java.util.regex.Pattern;

/** What LANGUAGE.md leaves no room for, as far as words and sizes show it; it runs in the project's folder. */
public final class LanguageTest {
    private static final String[] FORBIDDEN = {
        "\\bthrow\\b", "\\bthrows\\b", "\\btry\\b", "\\bcatch\\b", "\\bsynchronized\\b", "\\bassert\\b",
        "\\bimport\\b", "\\bpackage\\b", "->", "::", "\\bstatic\\s*\\{", "\\bSystem\\b(?!\\.arraycopy)",
        "Exact\\b", "\\bwhile\\s*\\(\\s*true\\b", "\\bvolatile\\b", "\\btransient\\b", "\\bnative\\b",
        "\\btoString\\b", "\\bhashCode\\b", "\\bgetClass\\b"
    };
    private static final Set<Class<?>> CONSTANTS = Set.of(int.class, long.class, boolean.class, char.class, String.class);
    private static final int MOST_PARAMETERS = 7;
    private static final int MOST_LINES = 60;
    private static final int MOST_CLASSES = 12;
    private static final int MOST_FIELDS = 20;

    public static void main(String[] args) throws IOException {
        Check check = new Check();
        String file = Files.readString(Path.of("src", "main", "java", "ProtectHooks.java"));
        words(check, codeOf(file));
        lengths(check, file);
        List<Class<?>> classes = new ArrayList<>(Arrays.asList(ProtectHooks.class.getDeclaredClasses()));
        classes.add(ProtectHooks.class);
        atMost(check, "classes", classes.size(), MOST_CLASSES);
        for (Class<?> one : classes) {
            fields(check, one);
            parameters(check, one);
        }
        check.end();
    }

    private static void atMost(Check check, String what, int count, int most) {
        check.due(what + " (" + count + ", at most " + most + ")", count <= most ? 1 : 0, 1);
    }

    private static String codeOf(String file) {
        return file.replaceAll("(?s)/\\*.*?\\*/", " ").replaceAll("//[^\\n]*", " ");
    }

    private static void words(Check check, String code) {
        for (String forbidden : FORBIDDEN) {
            Matcher matcher = Pattern.compile(forbidden).matcher(code);
            check.due("places of " + forbidden, matcher.results().count(), 0);
        }
    }

    /** A method begins and ends with lines that stand in by as much. */
    private static void lengths(Check check, String file) {
        Pattern method = Pattern.compile("(?ms)^( {4}| {8})[a-zA-Z][^;{}]*\\) \\{$.*?^\\1\\}$");
        Matcher matcher = method.matcher(file);
        int methods = 0;
        while (matcher.find()) {
            methods++;
            String text = matcher.group();
            atMost(check, "lines of " + text.substring(0, text.indexOf('{')).trim(), (int) text.lines().count(), MOST_LINES);
        }
        check.due("methods were found", methods > 12 ? 1 : 0, 1);
    }

    /** Static fields are final and constants; there is no other static state. */
    private static void fields(Check check, Class<?> one) {
        int fields = 0;
        for (Field field : one.getDeclaredFields()) {
            if (!Modifier.isStatic(field.getModifiers())) {
                fields++;
            } else {
                check.due("final " + field, Modifier.isFinal(field.getModifiers()) ? 1 : 0, 1);
                check.due("a constant " + field, CONSTANTS.contains(field.getType()) ? 1 : 0, 1);
            }
        }
        atMost(check, "fields of " + one.getName(), fields, MOST_FIELDS);
    }

    private static void parameters(Check check, Class<?> one) {
        for (Method method : one.getDeclaredMethods()) {
            atMost(check, "parameters of " + method, method.getParameterCount(), MOST_PARAMETERS);
        }
        for (Constructor<?> constructor : one.getDeclaredConstructors()) {
            atMost(check, "parameters of " + constructor, constructor.getParameterCount(), MOST_PARAMETERS);
        }
    }
}
