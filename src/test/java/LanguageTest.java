import java.io.IOException;
import java.nio.file.Files;
import java.nio.file.Path;
import java.util.List;
import java.util.regex.Matcher;
import java.util.regex.Pattern;

/** Some of the rules of ../shared/LANGUAGE.md, as far as they can be read off the words of the source. */
public final class LanguageTest {
    private static final Path SOURCE = Path.of("src/main/java/Gambitvault.java");
    private static final String[] RULED_OUT = {
        "->", "::", "\\bsynchronized\\b", "\\bassert\\b", "\\bfinally\\b", "\\btry\\b", "\\bcatch\\b",
        "\\bvar\\b", "\\bException\\b", "\\bThrowable\\b", "\\bObject\\b", "@", "Exact\\b", "\\bSystem\\.(?!arraycopy)",
        "\\bnew \\w+Exception\\((?!\\)|\")", "\\bString\\.", "\\bequals\\(", "\\bhashCode\\(", "\\btoString\\("};
    private static final int MOST_CLASSES = 12;

    public static void main(String[] args) throws IOException {
        Check check = new Check();
        String source = Files.readString(SOURCE);
        String code = source.replaceAll("(?s)/\\*.*?\\*/", "").replaceAll("//[^\n]*", "");
        for (String word : RULED_OUT) {
            check.due("uses of " + word, 0, count(word, code));
        }
        check.due("imports", List.of("java.util.Arrays", "java.util.NoSuchElementException"), imports(code));
        check.due("signs that are not plain", 0, count("[^\\n -~]", source));
        check.due("few classes", true, count("\\bclass \\w+", code) <= MOST_CLASSES);
        check.end("LanguageTest");
    }

    private static int count(String word, String text) {
        Matcher matcher = Pattern.compile(word).matcher(text);
        int count = 0;
        while (matcher.find()) {
            count++;
        }
        return count;
    }

    private static List<String> imports(String code) {
        return Pattern.compile("import ([\\w.]+);").matcher(code).results().map(found -> found.group(1)).toList();
    }
}
