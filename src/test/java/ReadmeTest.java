import java.io.IOException;
import java.lang.reflect.Method;
import java.nio.file.Files;
import java.nio.file.Path;
import java.util.HashMap;
import java.util.Map;
import java.util.regex.Matcher;
import java.util.regex.Pattern;

/** What README.md shows of the class is so: its calls, one behind the other, answer the numbers beside them. */
public final class ReadmeTest {
    private static final Pattern CALL =
            Pattern.compile("(?:(?:int|long) (\\w+) = )?town\\.(\\w+)\\(([^)]*)\\);\\s*// (-?\\d+)\\b.*");
    private static final Check check = new Check("ReadmeTest");
    private static final Map<String, Long> named = new HashMap<>();

    public static void main(String[] args) throws IOException, ReflectiveOperationException {
        HushAtFour town = new HushAtFour();
        int calls = 0;
        for (String line : Files.readString(Path.of("README.md")).split("\n")) {
            if (line.matches(".*\\btown\\.\\w+\\(.*;.*")) {
                one(town, line.trim());
                calls++;
            }
        }
        check.due("README.md shows at least 20 calls", Math.min(20, calls), 20);
        check.end();
    }

    private static void one(HushAtFour town, String line) throws ReflectiveOperationException {
        Matcher call = CALL.matcher(line);
        boolean isTold = call.matches();
        check.due("a call with its answer: " + line, isTold ? 1 : 0, 1);
        if (!isTold) {
            return;
        }
        long answer = ask(town, call.group(2), call.group(3));
        check.due(line, answer, Long.parseLong(call.group(4)));
        if (call.group(1) != null) {
            named.put(call.group(1), answer);
        }
    }

    private static long ask(HushAtFour town, String name, String told) throws ReflectiveOperationException {
        String[] words = told.isBlank() ? new String[0] : told.split("\\s*,\\s*");
        for (Method m : HushAtFour.class.getMethods()) {
            if (m.getName().equals(name) && m.getParameterCount() == words.length
                    && m.getDeclaringClass() == HushAtFour.class) {
                Object[] values = new Object[words.length];
                for (int i = 0; i < words.length; i++) {
                    long v = named.containsKey(words[i]) ? named.get(words[i]) : Long.decode(words[i]);
                    values[i] = m.getParameterTypes()[i] == long.class ? (Object) v : (Object) (int) v;
                }
                return ((Number) m.invoke(town, values)).longValue();
            }
        }
        throw new NoSuchMethodException(name + " of " + words.length);
    }
}
