import java.io.IOException;
import java.nio.file.Files;
import java.nio.file.Path;
import java.util.Set;
import java.util.TreeSet;
import java.util.regex.Matcher;
import java.util.regex.Pattern;

/** The program keeps to the part of Java that LANGUAGE.md leaves: what of it can be seen from its words. */
public final class LanguageTest {
    private static final Path SOURCE = Path.of(System.getProperty("edgecount.root", "."), "src/main/java/Edgecount.java");
    private static final Set<String> LIBRARY = Set.of(
        "Math.max", "Math.min", "Math.abs", "Math.floorDiv", "Math.floorMod", "System.arraycopy"
    );
    private static final Set<String> TYPES = Set.of(
        "Edgecount", "State", "FullProduct", "DigitRow", "String", "StringBuilder", "Math", "System",
        "IllegalStateException", "IllegalArgumentException", "IndexOutOfBoundsException"
    );
    private static final int LONGEST_METHOD = 60;

    private LanguageTest() {
    }

    public static void main(String[] args) throws IOException {
        String text = withoutComments(Files.readString(SOURCE));
        forbiddenWords(text);
        library(text);
        types(text);
        thrown(text);
        texts(text);
        methodsAreShort(text);
        Calls.end();
    }

    private static String withoutComments(String text) {
        return text.replaceAll("(?s)/\\*.*?\\*/", "").replaceAll("//[^\n]*", "");
    }

    private static String withoutTexts(String text) {
        return text.replaceAll("\"[^\"]*\"", "\"\"");
    }

    private static Set<String> found(String text, String pattern) {
        Set<String> all = new TreeSet<>();
        Matcher matcher = Pattern.compile(pattern).matcher(text);
        while (matcher.find()) {
            all.add(matcher.group());
        }
        return all;
    }

    /** Rules 1, 2, 3, 6 and 13: neither package nor import, nothing is caught, no lambda, no method reference. */
    private static void forbiddenWords(String text) {
        String words = "\\b(package|import|try|catch|finally|synchronized|assert|native|volatile|transient|instanceof"
            + "|double|float|protected|var|record|yield)\\b|->|::|@";
        Calls.same("words that LANGUAGE.md does not leave", found(withoutTexts(text), words), Set.of());
        Calls.same("static blocks", found(text, "static\\s*\\{"), Set.of());
    }

    /** Rule 4: The library: only what stands here. */
    private static void library(String text) {
        Set<String> used = found(withoutTexts(text), "\\b[A-Z][a-z]\\w*\\.\\w+");
        used.removeAll(LIBRARY);
        Calls.same("of the library, but not listed", used, Set.of());
    }

    /** Rules 3 and 6: no class is named but its own, String, StringBuilder and what is thrown. */
    private static void types(String text) {
        Set<String> used = found(withoutTexts(text), "\\b[A-Z][a-z]\\w*");
        used.removeAll(TYPES);
        Calls.same("types that are not listed", used, Set.of());
    }

    /** Rule 6: throw new E("a written text") */
    private static void thrown(String text) {
        String withoutRight = text.replaceAll("throw new Il?\\w+Exception\\(\"[^\"]*\"\\);", "");
        Calls.same("throws of another form", found(withoutRight, "\\bthrow\\b[^;]*;"), Set.of());
    }

    /** Rule 10: texts are joined by StringBuilder, not by +. */
    private static void texts(String text) {
        Calls.same("texts joined by +", found(text, "\"\\s*\\+|\\+\\s*\""), Set.of());
    }

    /** Rule 11: Methods stay short (some sixty lines). */
    private static void methodsAreShort(String text) {
        Matcher body = Pattern.compile("(?m)^( {4}| {8})\\S[^\n;=]*\\) ?[^\n;=]*\\{\n((?!\\1\\}).*\n)*").matcher(text);
        int methods = 0;
        while (body.find()) {
            String first = body.group().substring(0, body.group().indexOf('\n')).trim();
            long lines = body.group().chars().filter(sign -> sign == '\n').count() + 1;
            Calls.same(first + " is short", lines <= LONGEST_METHOD, true);
            methods++;
        }
        Calls.same("methods were found", methods > 100, true);
    }
}
