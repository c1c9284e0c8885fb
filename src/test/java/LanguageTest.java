import java.io.IOException;
import java.lang.reflect.Field;
import java.lang.reflect.Method;
import java.lang.reflect.Modifier;
import java.nio.file.Files;
import java.nio.file.Path;
import java.util.Set;
import java.util.TreeSet;
import java.util.regex.Matcher;
import java.util.regex.Pattern;

/** The rules of LANGUAGE.md that can be seen without judgement, by their numbers. */
public final class LanguageTest {
    private static final Path SOURCE = Path.of("src/main/java/FramePool.java");
    private static final Set<String> LIBRARY = Set.of("Math.max", "Math.min", "System.arraycopy");
    private static final Set<Class<?>> CONSTANTS = Set.of(
        int.class, long.class, boolean.class, char.class, String.class,
        int[].class, long[].class, char[].class, byte[].class);
    private static final int MOST_PARAMETERS = 7;
    private static final int MOST_FIELDS = 20;

    public static void main(String[] args) throws IOException {
        Due due = new Due("LanguageTest");
        String code = withoutComments(Files.readString(SOURCE));
        privateNames(due);
        forbiddenWords(due, code);
        library(due, code);
        staticFields(due);
        sizes(due);
        due.end();
    }

    private static String withoutComments(String source) {
        return source.replaceAll("(?s)/\\*.*?\\*/", " ").replaceAll("//[^\n]*", " ");
    }

    private static void privateNames(Due due) {
        Set<String> open = new TreeSet<>();
        Set<String> closed = new TreeSet<>();
        for (Method method : FramePool.class.getDeclaredMethods()) {
            (Modifier.isPrivate(method.getModifiers()) ? closed : open).add(method.getName());
        }
        closed.retainAll(open);
        due.is("rule 1: private methods that bear a public one's name", closed, Set.of());
    }

    /** The document names no exception, so none is thrown or caught at all (rule 6). */
    private static void forbiddenWords(Due due, String code) {
        String[] words = {
            "\\bpackage\\b", "\\bimport\\b", "->", "::", "\\bstatic\\s*\\{", "\\bthrow", "\\btry\\b",
            "\\bcatch\\b", "\\bfinally\\b", "\\bassert\\b", "\\bsynchronized\\b", "\\bnative\\b",
            "\\bvar\\b", "\\bjava\\.", "\\bThread\\b", "\\bhashCode\\b", "\\btoString\\b"};
        for (String word : words) {
            boolean found = Pattern.compile(word).matcher(code).find();
            due.is("rules 2, 4, 5, 6, 13: has " + word, found, false);
        }
    }

    private static void library(Due due, String code) {
        Set<String> used = new TreeSet<>();
        Matcher call = Pattern.compile("\\b[A-Z][A-Za-z]*\\.[a-z]\\w*").matcher(code);
        while (call.find()) {
            used.add(call.group());
        }
        used.removeAll(LIBRARY);
        due.is("rule 4: used of the library beside what this test knows", used, Set.of());
    }

    private static void staticFields(Due due) {
        for (Field field : FramePool.class.getDeclaredFields()) {
            if (Modifier.isStatic(field.getModifiers())) {
                due.is("rule 5: final " + field, Modifier.isFinal(field.getModifiers()), true);
                due.is("rule 5: type of " + field, CONSTANTS.contains(field.getType()), true);
            }
        }
    }

    private static void sizes(Due due) {
        int fields = 0;
        for (Field field : FramePool.class.getDeclaredFields()) {
            fields += Modifier.isStatic(field.getModifiers()) ? 0 : 1;
        }
        due.is("rule 11: too many fields, " + fields, fields > MOST_FIELDS, false);
        for (Method method : FramePool.class.getDeclaredMethods()) {
            due.is("rule 11: parameters of " + method.getName(),
                method.getParameterCount() > MOST_PARAMETERS, false);
        }
    }
}
