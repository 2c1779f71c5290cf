import java.io.IOException;
import java.lang.reflect.InvocationTargetException;
import java.lang.reflect.Method;
import java.nio.file.Files;
import java.nio.file.Path;
import java.util.Set;
import java.util.TreeSet;
import java.util.regex.Matcher;
import java.util.regex.Pattern;

/** The example of README.md, followed call by call, so that it can't tell what the class does not do. */
public final class ReadmeTest {
    private static final Pattern CALL = Pattern.compile("house\\.(\\w+)\\(([^)]*)\\); // (-?\\d+)(?:: (.*))?");
    private static final Pattern BYTES = Pattern.compile("\"(.{20})\"");

    public static void main(String[] args) throws IOException, ReflectiveOperationException {
        Check check = new Check();
        String readme = Files.readString(Path.of("README.md"));
        int from = readme.indexOf("```java\n");
        int to = readme.indexOf("\n```", from + 1);
        check.due("an example is there", from >= 0 && to > from, true);
        if (from >= 0 && to > from) {
            follow(check, readme.substring(from, to).split("\n"));
        }
        check.due("the command that runs the tests is named", readme.contains("\n    .ci/run\n"), true);
        check.end();
    }

    private static void follow(Check check, String[] lines) throws ReflectiveOperationException {
        LanternHouse house = new LanternHouse();
        Set<String> called = new TreeSet<>();
        for (String line : lines) {
            if (line.startsWith("house.")) {
                Matcher call = CALL.matcher(line);
                check.due("form of: " + line, call.matches(), true);
                if (call.matches()) {
                    called.add(call.group(1));
                    check.due(line, answer(house, call.group(1), call.group(2)), Long.parseLong(call.group(3)));
                    bytesAsTold(check, call);
                }
            }
        }
        // so that lines of another form can't make the example an empty one
        check.due("calls of the example " + called, called.size() >= 18, true);
    }

    private static long answer(LanternHouse house, String name, String arguments) throws ReflectiveOperationException {
        for (Method method : LanternHouse.class.getDeclaredMethods()) {
            if (method.getName().equals(name)) {
                return valueOf(invoke(method, house, arguments));
            }
        }
        throw new IllegalStateException("no such call: " + name);
    }

    private static Object invoke(Method method, LanternHouse house, String arguments)
            throws IllegalAccessException, InvocationTargetException {
        String[] parts = arguments.isEmpty() ? new String[0] : arguments.split(", ");
        Object[] values = new Object[parts.length];
        for (int i = 0; i < parts.length; i++) {
            boolean isBoolean = method.getParameterTypes()[i] == boolean.class;
            values[i] = isBoolean ? (Object) Boolean.valueOf(parts[i]) : (Object) Long.decode(parts[i]).intValue();
        }
        return method.invoke(house, values);
    }

    private static long valueOf(Object answer) {
        return answer instanceof Boolean ? (Boolean) answer ? 1 : 0 : (Integer) answer;
    }

    /** A feed's comment tells the bytes, which can't be seen in its numbers. */
    private static void bytesAsTold(Check check, Matcher call) {
        if (call.group(1).equals("feed")) {
            StringBuilder bytes = new StringBuilder();
            for (String part : call.group(2).split(", ")) {
                int word = Long.decode(part).intValue();
                for (int shift = 24; shift >= 0; shift -= 8) {
                    bytes.append((char) (word >> shift & 255));
                }
            }
            Matcher told = BYTES.matcher(call.group(4) == null ? "" : call.group(4));
            check.due("bytes of: " + call.group(), told.matches() && told.group(1).contentEquals(bytes), true);
        }
    }
}
