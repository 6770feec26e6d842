import java.lang.reflect.Method;
import java.nio.file.Files;
import java.nio.file.Path;
import java.util.regex.Matcher;
import java.util.regex.Pattern;

/** Asks the calls of README.md's example, in their order, and holds each answer against the one told behind it. */
public final class ReadmeTest {
    private static final Due due = new Due("ReadmeTest");
    private static final Pattern CALL = Pattern.compile("^house\\.(\\w+)\\(([^)]*)\\);\\s+// (-?\\d+): .*$");
    private static final int FEWEST_CALLS = 20;

    public static void main(String[] args) throws Exception {
        SeatCounts house = new SeatCounts();
        int calls = 0;
        for (String line : example(Files.readString(Path.of("README.md"))).split("\n")) {
            Matcher call = CALL.matcher(line);
            if (call.matches()) {
                calls++;
                due.is(line, ask(house, call.group(1), call.group(2)), Long.parseLong(call.group(3)));
            } else {
                due.is(line, line.equals("SeatCounts house = new SeatCounts();") ? 1 : 0, 1);
            }
        }
        due.holds("the example was found", calls >= FEWEST_CALLS);
        due.end();
    }

    private static String example(String readme) {
        Matcher block = Pattern.compile("```java\n(.*?)\n```", Pattern.DOTALL).matcher(readme);
        return block.find() ? block.group(1) : "";
    }

    private static long ask(SeatCounts house, String name, String list) throws Exception {
        String[] texts = list.isEmpty() ? new String[0] : list.split(", ");
        for (Method method : SeatCounts.class.getMethods()) {
            if (method.getName().equals(name) && method.getParameterCount() == texts.length) {
                Object[] values = new Object[texts.length];
                for (int k = 0; k < texts.length; k++) {
                    values[k] = valueOf(method.getParameterTypes()[k], texts[k]);
                }
                return ((Number) method.invoke(house, values)).longValue();
            }
        }
        due.holds("there is a call " + name + "(" + list + ")", false);
        return 0;
    }

    private static Object valueOf(Class<?> type, String text) {
        if (type == boolean.class) {
            return Boolean.valueOf(text);
        }
        return type == long.class ? (Object) Long.decode(text) : (Object) Integer.decode(text);
    }
}
