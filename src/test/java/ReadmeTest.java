import java.io.IOException;
import java.lang.reflect.Method;
import java.nio.file.Files;
import java.nio.file.Path;
import java.util.regex.Matcher;
import java.util.regex.Pattern;

/** The run of calls that README.md shows has the answers that it tells; it runs in the project's directory. */
public final class ReadmeTest {
    private static final Pattern CALL = Pattern.compile("bus\\.(\\w+)\\(([^)]*)\\);\\s*// (-?\\d+)?.*");

    public static void main(String[] args) throws IOException {
        String readme = Files.readString(Path.of("README.md"));
        Matcher shown = Pattern.compile("(?s)```java\n(.*?)```").matcher(readme);
        Check.due("a run is shown", Check.bit(shown.find()), 1);
        String[] lines = shown.group(1).split("\n");
        Check.due("its first line", lines[0], "MeterBus bus = new MeterBus();");
        MeterBus bus = new MeterBus();
        int answers = 0;
        for (int i = 1; i < lines.length; i++) {
            answers += lines[i].isEmpty() ? 0 : call(bus, lines[i]);
        }
        Check.due("answers are told", Check.bit(answers >= 5), 1);
        Check.due("it tells how its tests are run", Check.bit(readme.contains("\n.ci/run\n")), 1);
        Check.end();
    }

    /** How many answers the line tells. */
    private static int call(MeterBus bus, String line) {
        Matcher call = CALL.matcher(line);
        Check.due(line + " is a call", Check.bit(call.matches()), 1);
        Object got = answer(bus, call.group(1), call.group(2).isEmpty() ? new String[0] : call.group(2).split(", "));
        if (call.group(3) == null) {
            Check.due(line, String.valueOf(got), "null");
            return 0;
        }
        Check.due(line, String.valueOf(got), call.group(3));
        return 1;
    }

    private static Object answer(MeterBus bus, String name, String[] arguments) {
        for (Method m : MeterBus.class.getMethods()) {
            if (m.getName().equals(name)) {
                Object[] numbers = new Object[arguments.length];
                for (int i = 0; i < numbers.length; i++) {
                    long number = Long.decode(arguments[i].replace("L", ""));
                    boolean isLong = m.getParameterTypes()[i] == long.class;
                    numbers[i] = isLong ? (Object) number : (Object) (int) number;
                }
                try {
                    return m.invoke(bus, numbers);
                } catch (ReflectiveOperationException e) {
                    return e.toString();
                }
            }
        }
        return "no such method";
    }
}
