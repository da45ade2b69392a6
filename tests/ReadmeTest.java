import java.lang.reflect.Method;
import java.nio.charset.StandardCharsets;
import java.nio.file.Files;
import java.nio.file.Path;
import java.util.Arrays;
import java.util.regex.Matcher;
import java.util.regex.Pattern;

/**
 * README.md's examples answer what the comments beside them say. Argument: README.md.
 * An example that this test cannot read is a fault, too, lest it stand there unasked.
 */
public final class ReadmeTest extends Check {
    private static final String MADE = "AcrossTheGap x = new AcrossTheGap();";
    private static final Pattern CALL = Pattern.compile("x\\.(\\w+)\\(([^)]*)\\); +// (-?\\d+)(:.*)?");
    private static final Pattern LETTERS = Pattern.compile(
            "for \\(char c : \"([^\"]*)\"\\.toCharArray\\(\\)\\) x\\.feed\\(c\\);");

    private static AcrossTheGap x;
    private static int answers = 0;

    public static void main(String[] args) throws Exception {
        String readme = Files.readString(Path.of(args[0]), StandardCharsets.UTF_8);
        Matcher example = Pattern.compile("(?s)```java\n(.*?)```").matcher(readme);
        int examples = 0;
        while (example.find()) {
            examples++;
            x = null;
            for (String line : example.group(1).split("\n")) {
                startAt("README.md, example " + examples + ", " + line);
                follow(line);
            }
        }
        startAt("README.md");
        if (examples < 4 || answers < 50) {
            fault("only " + examples + " examples with " + answers + " answers were found");
        }
        end("ReadmeTest");
    }

    private static void follow(String line) throws Exception {
        Matcher call = CALL.matcher(line);
        Matcher letters = LETTERS.matcher(line);
        if (line.equals(MADE)) {
            x = new AcrossTheGap();
        } else if (call.matches() && x != null) {
            answers++;
            due(answer(call.group(1), call.group(2)), Long.parseLong(call.group(3)));
        } else if (letters.matches() && x != null) {
            for (char c : letters.group(1).toCharArray()) {
                x.feed(c);
            }
        } else {
            fault("this line cannot be read");
        }
    }

    private static long answer(String name, String numbers) throws Exception {
        Object[] given = numbers.isEmpty() ? new Object[0]
                : Arrays.stream(numbers.split(", ")).map(Integer::valueOf).toArray();
        for (Method method : AcrossTheGap.class.getMethods()) {
            if (method.getName().equals(name) && method.getParameterCount() == given.length) {
                return ((Number) method.invoke(x, given)).longValue();
            }
        }
        fault("there is no such call");
        return 0;
    }
}
