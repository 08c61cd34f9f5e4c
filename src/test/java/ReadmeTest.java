import java.lang.reflect.Method;
import java.nio.file.Files;
import java.nio.file.Path;
import java.util.HashSet;
import java.util.Set;
import java.util.regex.Matcher;
import java.util.regex.Pattern;

/** The calls that README.md shows, one behind the other on one object, answer what stands behind them. */
public final class ReadmeTest {
    private static final Check CHECK = new Check("ReadmeTest");
    private static final Pattern SHOWN = Pattern.compile("borough\\.(\\w+)\\(([-0-9, ]*)\\);\\s+// (-?\\d+).*");
    private static final Pattern FED = Pattern.compile("for \\(char c : \"([^\"]*)\"\\.toCharArray\\(\\)\\) borough\\.feed\\(c\\);");
    private static final String MADE = "RatedBySighs borough = new RatedBySighs();";

    public static void main(String[] args) throws Exception {
        RatedBySighs borough = new RatedBySighs();
        boolean isCode = false;
        Set<String> shown = new HashSet<>();
        for (String line : Files.readAllLines(Path.of("README.md"))) {
            if (line.startsWith("```")) {
                isCode = line.equals("```java");
                continue;
            }
            if (!isCode || line.equals(MADE)) {
                continue;
            }
            Matcher fed = FED.matcher(line);
            Matcher call = SHOWN.matcher(line);
            if (fed.matches()) {
                Check.fed(borough, fed.group(1));
            } else if (call.matches()) {
                CHECK.due("README: " + line, answer(borough, call.group(1), call.group(2)), Long.parseLong(call.group(3)));
                shown.add(call.group(1));
            } else {
                CHECK.holds("README: a call with its answer: " + line, false);
            }
        }
        CHECK.holds("README shows how to use it: " + shown, shown.size() > 10);
        CHECK.end();
    }

    private static long answer(RatedBySighs borough, String name, String numbers) throws Exception {
        String[] parts = numbers.isBlank() ? new String[0] : numbers.split(",");
        Object[] given = new Object[parts.length];
        for (int i = 0; i < parts.length; i++) {
            given[i] = Integer.parseInt(parts[i].trim());
        }
        for (Method m : RatedBySighs.class.getMethods()) {
            if (m.getName().equals(name) && m.getParameterCount() == given.length) {
                return ((Number) m.invoke(borough, given)).longValue();
            }
        }
        throw new IllegalArgumentException("no call " + name + " of " + given.length);
    }
}
