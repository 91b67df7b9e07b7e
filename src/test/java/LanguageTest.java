import java.io.IOException;
import java.lang.reflect.Field;
import java.lang.reflect.Method;
import java.lang.reflect.Modifier;
import java.nio.file.Files;
import java.nio.file.Path;
import java.util.HashSet;
import java.util.Set;
import java.util.regex.Matcher;
import java.util.regex.Pattern;

/** Those rules of ../shared/LANGUAGE.md that can be seen from the file and its classes. Runs in the project's folder. */
public final class LanguageTest {
    private static final String[] BANNED = {
        "\\bthrow\\b", "\\btry\\b", "\\bcatch\\b", "\\bsynchronized\\b", "\\bassert\\b", "::", "\\bpackage\\b",
        "\\bprotected\\b", "\\bnative\\b", "\\bhashCode\\b", "Exact\\b", "\\bSystem\\.(?!arraycopy\\b)",
        "\\bimport\\b(?! java\\.util\\.(ArrayList|List|Arrays|Iterator);)", "(?m)^(?!.*\\b(case|default)\\b).*->",
    };
    private static final Due DUE = new Due("LanguageTest");

    public static void main(String[] args) throws IOException {
        String source = Files.readString(Path.of("src/main/java/FallingGlass.java"));
        String code = source.replaceAll("(?s)/\\*.*?\\*/", "").replaceAll("//[^\n]*", "").replaceAll("\"[^\"\n]*\"", "\"\"");
        words(code);
        lengths(source);
        classes();
        DUE.end();
    }

    private static void words(String code) {
        for (String word : BANNED) {
            Matcher found = Pattern.compile(word).matcher(code);
            holds("no " + word, !found.find());
        }
        Matcher concatenation = Pattern.compile("\"\"\\s*\\+|\\+\\s*\"\"").matcher(code);
        holds("texts are not joined by +", !concatenation.find());
    }

    /** Methods stand four or eight deep and end with a brace as deep. */
    private static void lengths(String source) {
        String[] lines = source.split("\n");
        int start = 0;
        for (int i = 0; i < lines.length; i++) {
            String line = lines[i];
            if (line.matches(" {4}( {4})?\\S.*\\) \\{")) {
                start = i;
            }
            if (line.matches(" {4}( {4})?\\}")) {
                holds("line " + (i + 1) + " ends a method of some sixty lines", i - start < 70);
            }
        }
    }

    private static void classes() {
        Class<?>[] inside = FallingGlass.class.getDeclaredClasses();
        holds("some twelve classes", inside.length + 1 <= 14);
        Set<String> face = new HashSet<>();
        for (Method method : FallingGlass.class.getDeclaredMethods()) {
            if (Modifier.isPublic(method.getModifiers())) {
                face.add(method.getName());
            }
        }
        members(FallingGlass.class, face);
        for (Class<?> one : inside) {
            holds(one + " is static", Modifier.isStatic(one.getModifiers()));
            holds(one + " is not public", !Modifier.isPublic(one.getModifiers()));
            members(one, face);
        }
    }

    private static void members(Class<?> one, Set<String> face) {
        int fields = 0;
        for (Field field : one.getDeclaredFields()) {
            if (Modifier.isStatic(field.getModifiers())) {
                holds(field + " is final", Modifier.isFinal(field.getModifiers()));
            } else {
                fields++;
            }
        }
        holds(one + " has some twenty fields", fields <= 25);
        for (Method method : one.getDeclaredMethods()) {
            boolean isPrivate = Modifier.isPrivate(method.getModifiers());
            holds(method + " does not bear a public name", !isPrivate || !face.contains(method.getName()));
            holds(method + " has at most seven parameters", method.getParameterCount() <= 7);
        }
    }

    private static void holds(String what, boolean held) {
        DUE.is(what, held ? 1 : 0, 1);
    }
}
