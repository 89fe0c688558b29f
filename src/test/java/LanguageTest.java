import java.io.IOException;
import java.lang.reflect.Field;
import java.lang.reflect.Method;
import java.lang.reflect.Modifier;
import java.nio.file.Files;
import java.nio.file.Path;
import java.util.ArrayList;
import java.util.List;
import java.util.Set;
import java.util.regex.Matcher;
import java.util.regex.Pattern;

/** Those rules of ../shared/LANGUAGE.md that can be read off the words of the source, or off the class. */
public final class LanguageTest {
    private static final Path SOURCE = Path.of("src/main/java/Gambitvault.java");
    private static final String[] RULED_OUT = {
        "->", "::", "\\bsynchronized\\b", "\\bassert\\b", "\\bfinally\\b", "\\btry\\b", "\\bcatch\\b",
        "\\bvar\\b", "\\bException\\b", "\\bThrowable\\b", "\\bObject\\b", "@", "Exact\\b", "\\bSystem\\.(?!arraycopy)",
        "\\bnew \\w+Exception\\((?!\\)|\")", "\\bString\\.", "\\bequals\\(", "\\bhashCode\\(", "\\btoString\\("};
    private static final int MOST_CLASSES = 12;
    private static final int MOST_FIELDS = 20;
    private static final int MOST_PARAMETERS = 7;
    private static final int MOST_LINES = 60;
    private static final Set<Class<?>> CONSTANTS = Set.of(
            int.class, long.class, boolean.class, char.class, String.class,
            int[].class, long[].class, char[].class, byte[].class);

    public static void main(String[] args) throws IOException {
        Check check = new Check();
        String source = Files.readString(SOURCE);
        String code = source.replaceAll("(?s)/\\*.*?\\*/", "").replaceAll("//[^\n]*", "");
        for (String word : RULED_OUT) {
            check.due("uses of " + word, 0, count(word, code));
        }
        check.due("imports", List.of("java.util.Arrays", "java.util.NoSuchElementException"), imports(code));
        check.due("signs that are not plain", 0, count("[^\\n -~]", source));
        check.due("few classes", true, count("\\bclass \\w+", code) <= MOST_CLASSES);
        check.due("methods that are too long", List.of(), longMethods(source));
        members(check, Gambitvault.class);
        for (Class<?> inside : Gambitvault.class.getDeclaredClasses()) {
            check.due("static: " + inside, true, Modifier.isStatic(inside.getModifiers()));
            check.due("not public: " + inside, false,
                    Modifier.isPublic(inside.getModifiers()) || Modifier.isProtected(inside.getModifiers()));
            members(check, inside);
        }
        check.end("LanguageTest");
    }

    private static void members(Check check, Class<?> one) {
        int fields = 0;
        for (Field field : one.getDeclaredFields()) {
            if (Modifier.isStatic(field.getModifiers())) {
                check.due("final: " + field, true, Modifier.isFinal(field.getModifiers()));
                check.due("a constant's type: " + field, true, CONSTANTS.contains(field.getType()));
            } else {
                fields++;
            }
        }
        check.due("few fields: " + one, true, fields <= MOST_FIELDS);
        for (Method method : one.getDeclaredMethods()) {
            check.due("few parameters: " + method, true, method.getParameterCount() <= MOST_PARAMETERS);
        }
    }

    /** The first lines of methods, of the outer class or of one inside, that are longer than they should be. */
    private static List<String> longMethods(String source) {
        List<String> found = new ArrayList<>();
        List<String> lines = source.lines().toList();
        for (String margin : List.of(" ".repeat(4), " ".repeat(8))) {
            int first = 0;
            for (int i = 0; i < lines.size(); i++) {
                String line = lines.get(i);
                if (line.matches(margin + "\\w.*")) {
                    first = i;
                }
                boolean isClass = lines.get(first).contains(" class ");
                if (line.equals(margin + "}") && !isClass && i - first + 1 > MOST_LINES) {
                    found.add(lines.get(first).strip());
                }
            }
        }
        return found;
    }

    private static int count(String word, String text) {
        Matcher matcher = Pattern.compile(word).matcher(text);
        int count = 0;
        while (matcher.find()) {
            count++;
        }
        return count;
    }

    private static List<String> imports(String code) {
        return Pattern.compile("import ([\\w.]+);").matcher(code).results().map(found -> found.group(1)).toList();
    }
}
