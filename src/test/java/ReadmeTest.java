import java.lang.reflect.Method;
import java.nio.file.Files;
import java.nio.file.Path;
import java.util.Set;
import java.util.TreeSet;
import java.util.regex.Matcher;
import java.util.regex.Pattern;

/** The example of README.md: each call answers what is written behind it. Run from the project's root. */
public final class ReadmeTest {
    private static final Pattern CALL = Pattern.compile("x\\.(\\w+)\\((\\w*)\\); +// (\\w+).*");
    private static final Set<String> METHODS =
        Set.of("expand", "shorten", "halves", "take", "word", "length", "whole", "drop");

    private static final Check CHECK = new Check();

    public static void main(String[] args) throws Exception {
        ShortForms x = new ShortForms();
        Set<String> shown = new TreeSet<>();
        for (String line : Files.readAllLines(Path.of("README.md"))) {
            if (line.startsWith("x.")) {
                shown.add(oneCall(x, line));
            }
        }
        CHECK.same("the methods that the example shows", shown, METHODS);
        CHECK.end();
    }

    private static String oneCall(ShortForms x, String line) throws Exception {
        Matcher call = CALL.matcher(line);
        if (!call.matches()) {
            CHECK.same(line, "no call with its answer", "a call with its answer");
            return line;
        }
        String answer = String.valueOf(answerOf(x, call.group(1), call.group(2)));
        CHECK.same(line, answer, due(call.group(3)));
        return call.group(1);
    }

    private static Object answerOf(ShortForms x, String name, String argument) throws Exception {
        if (argument.isEmpty()) {
            return ShortForms.class.getMethod(name).invoke(x);
        }
        Method method = ShortForms.class.getMethod(name, int.class);
        return method.invoke(x, number(argument));
    }

    private static String due(String text) {
        switch (text) {
            case "true":
            case "false":
                return text;
            case "NONE":
                return String.valueOf(ShortForms.NONE);
            default:
                return String.valueOf(number(text));
        }
    }

    // A word with its highest bit set is written in the README as Java writes it, beyond Integer.MAX_VALUE.
    private static int number(String text) {
        return (int) (long) Long.decode(text);
    }
}
