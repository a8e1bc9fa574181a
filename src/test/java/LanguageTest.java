import java.io.IOException;
import java.nio.file.Files;
import java.nio.file.Path;
import java.util.regex.Matcher;
import java.util.regex.Pattern;

/** Words that LANGUAGE.md leaves no room for; it runs in the project's folder. */
public final class LanguageTest {
    private static final String[] FORBIDDEN = {
        "\\bthrow\\b", "\\bthrows\\b", "\\btry\\b", "\\bcatch\\b", "\\bsynchronized\\b", "\\bassert\\b",
        "\\bimport\\b", "\\bpackage\\b", "->", "::", "\\bstatic\\s*\\{", "\\bSystem\\b(?!\\.arraycopy)",
        "Exact\\b", "\\bwhile\\s*\\(\\s*true\\b", "\\bvolatile\\b", "\\btransient\\b", "\\bnative\\b",
        "\\btoString\\b", "\\bhashCode\\b", "\\bgetClass\\b"
    };

    public static void main(String[] args) throws IOException {
        Check check = new Check();
        String code = codeOf(Files.readString(Path.of("src", "main", "java", "ProtectHooks.java")));
        for (String forbidden : FORBIDDEN) {
            Matcher matcher = Pattern.compile(forbidden).matcher(code);
            check.due("places of " + forbidden, matcher.results().count(), 0);
        }
        check.end();
    }

    private static String codeOf(String file) {
        return file.replaceAll("(?s)/\\*.*?\\*/", " ").replaceAll("//[^\\n]*", " ");
    }
}
