import java.io.IOException;
import java.nio.file.Files;
import java.nio.file.Path;
import java.util.regex.Matcher;
import java.util.regex.Pattern;

/** What LANGUAGE.md rules out and a look at the words can find, looked for in the source. */
public final class LanguageTest {
    private static final String[] RULED_OUT = {
        "\\b(throw|throws|try|catch|finally|synchronized|assert)\\b", "->", "::", "\\bpackage\\b",
        "\\b(System\\.(out|err|in|exit|nanoTime|currentTimeMillis)|Math\\.(random|\\w+Exact))\\b",
        "\\b(Random|Thread|Runtime|Object|Class|Map|Set|HashMap|Optional|Stream)\\b",
        "\\b(equals|hashCode)\\s*\\(\\s*Object\\b", "\\bstatic\\s*\\{", "\\bprotected\\b",
        "\"\\s*\\+", "\\+\\s*\""};
    private static final int METHOD_LINES = 60, CLASSES = 12;

    public static void main(String[] args) throws IOException {
        String source = Files.readString(Path.of("src/main/java/FeatureImport.java"));
        for (int i = 0; i < source.length(); i++) {
            int sign = source.charAt(i);
            if (sign > 126) Due.fail("a sign beyond 126 stands at " + i);
        }
        String bare = withoutTexts(source);
        for (String pattern : RULED_OUT) {
            Matcher found = Pattern.compile(pattern).matcher(bare);
            if (found.find()) Due.fail("ruled out: " + found.group());
        }
        Matcher imported = Pattern.compile("import ([\\w.*]+);").matcher(bare);
        while (imported.find()) {
            if (!imported.group(1).matches("java\\.util\\.(Arrays|ArrayList|List|Iterator)")) {
                Due.fail("ruled out: " + imported.group());
            }
        }
        Matcher classes = Pattern.compile("\\b(class|record|enum|interface) [A-Z]").matcher(bare);
        int number = 0;
        while (classes.find()) number++;
        if (number > CLASSES) Due.fail(number + " classes");
        lengths(bare);
        Due.end();
    }

    /** The source with comments and the insides of texts taken out. */
    private static String withoutTexts(String source) {
        return source.replaceAll("(?s)/\\*.*?\\*/", "").replaceAll("//[^\n]*", "")
            .replaceAll("\"[^\"\n]*\"", "\"\"").replaceAll("'[^'\n]'", "' '");
    }

    /** Methods stand at the first or the second level of the braces' indentation. */
    private static void lengths(String bare) {
        String[] lines = bare.split("\n");
        for (String indent : new String[] {"    ", "        "}) {
            int start = -1;
            for (int i = 0; i < lines.length; i++) {
                if (lines[i].matches(indent + "\\S.*\\) \\{")) start = i;
                if (lines[i].equals(indent + "}") && start >= 0) {
                    if (i - start > METHOD_LINES) Due.fail("long: " + lines[start].trim());
                    start = -1;
                }
            }
        }
    }
}
