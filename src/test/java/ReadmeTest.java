import java.io.IOException;
import java.lang.reflect.Method;
import java.lang.reflect.Modifier;
import java.nio.file.Files;
import java.nio.file.Path;
import java.util.regex.Matcher;
import java.util.regex.Pattern;

/** The calls that README.md shows, made as they stand there, answer the numbers behind them. */
public final class ReadmeTest {
    private static final Pattern FED = Pattern.compile("for \\(char sign : \"(.*)\"\\.toCharArray\\(\\)\\) x\\.feed\\(sign\\);");
    private static final Pattern CALL = Pattern.compile("x\\.(\\w+)\\(([-\\d, ]*)\\); +// (-?\\d+) .*");
    private static final String MADE = "FeatureImport x = new FeatureImport();";

    public static void main(String[] args) throws IOException, ReflectiveOperationException {
        String readme = Files.readString(Path.of("README.md"));
        String shown = readme.substring(readme.indexOf("```java\n") + 8);
        FeatureImport x = Given.nothing();
        int calls = 0;
        for (String line : shown.substring(0, shown.indexOf("```")).split("\n")) {
            Matcher fed = FED.matcher(line);
            Matcher call = CALL.matcher(line);
            if (fed.matches()) {
                Given.feed(x, fed.group(1));
            } else if (call.matches()) {
                Due.is(line, answer(x, call.group(1), call.group(2)), Long.parseLong(call.group(3)));
                calls++;
            } else if (!line.equals(MADE)) {
                Due.fail("README.md shows what is no call: " + line);
            }
        }
        if (calls == 0) Due.fail("README.md shows no calls");
        for (Method method : FeatureImport.class.getDeclaredMethods()) {
            boolean isNamed = readme.contains("`" + method.getName() + "`");
            if (Modifier.isPublic(method.getModifiers()) && !isNamed) {
                Due.fail("README.md does not name " + method.getName());
            }
        }
        Due.end();
    }

    private static long answer(FeatureImport x, String name, String numbers)
            throws ReflectiveOperationException {
        String[] given = numbers.isEmpty() ? new String[0] : numbers.split(", ");
        Class<?>[] kinds = new Class<?>[given.length];
        Object[] values = new Object[given.length];
        for (int i = 0; i < given.length; i++) {
            kinds[i] = int.class;
            values[i] = Integer.valueOf(given[i]);
        }
        return ((Number) FeatureImport.class.getMethod(name, kinds).invoke(x, values)).longValue();
    }
}
