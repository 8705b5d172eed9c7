import java.lang.reflect.Method;
import java.nio.file.Files;
import java.nio.file.Path;
import java.util.regex.Matcher;
import java.util.regex.Pattern;

/** The example of README.md: each call is made as it stands there, and the number behind it is the answer that is due. */
public final class ReadmeTest extends Checks {
    private static final Pattern ADDED = Pattern.compile("desk\\.(add)\\(([0-9, ]*)\\); +// thread .*");
    private static final Pattern ANSWERED = Pattern.compile("int \\w+ = desk\\.(\\w+)\\(([0-9, ]*)\\); +// (-?[0-9]+)(:.*)?");

    public static void main(String[] args) throws Exception {
        endInTime();
        String text = Files.readString(Path.of("README.md"));
        String example = text.substring(text.indexOf("```java") + 7);
        String[] lines = example.substring(0, example.indexOf("```")).strip().split("\n");
        same("the first line", "OutcomeDesk desk = new OutcomeDesk();", lines[0]);
        OutcomeDesk desk = new OutcomeDesk();
        for (int i = 1; i < lines.length; i++) {
            run(desk, lines[i]);
        }
        finish(lines.length - 1);
    }

    private static void run(OutcomeDesk desk, String line) throws Exception {
        Matcher added = ADDED.matcher(line);
        Matcher answered = ANSWERED.matcher(line);
        if (added.matches()) {
            same(line, true, call(desk, added.group(1), added.group(2)));
        } else if (answered.matches()) {
            same(line, answered.group(3), call(desk, answered.group(1), answered.group(2)));
        } else {
            fault("no call that can be made: " + line);
        }
    }

    private static Object call(OutcomeDesk desk, String name, String arguments) throws Exception {
        String[] parts = arguments.split(", ");
        Object[] numbers = new Object[parts.length];
        Class<?>[] types = new Class<?>[parts.length];
        for (int i = 0; i < parts.length; i++) {
            numbers[i] = Integer.valueOf(parts[i]);
            types[i] = int.class;
        }
        Method method = OutcomeDesk.class.getMethod(name, types);
        return method.invoke(desk, numbers);
    }
}
