import java.io.IOException;
import java.lang.reflect.Method;
import java.lang.reflect.Modifier;
import java.nio.file.Files;
import java.nio.file.Path;
import java.util.ArrayList;
import java.util.HashMap;
import java.util.HashSet;
import java.util.List;
import java.util.Map;
import java.util.Set;
import java.util.regex.Matcher;
import java.util.regex.Pattern;

/** What README.md says the calls of its run answer is what they answer; and it names every method. */
public final class ReadmeTest {
    private static final Pattern CALL =
            Pattern.compile("(?:int (\\w+) = )?x\\.(\\w+)\\((.*)\\); *// (-?\\w+)(?::.*)?");

    private final Due due = new Due("ReadmeTest");
    private final Map<String, Object> named = new HashMap<>();
    private final Set<String> called = new HashSet<>();

    public static void main(String[] args) throws IOException, ReflectiveOperationException {
        ReadmeTest test = new ReadmeTest();
        List<String> lines = Files.readAllLines(Path.of("README.md"));
        test.makeRun(runIn(lines));
        test.lookForMethods(lines);
        test.due.end();
    }

    /** The lines of the Java block, but for empty ones and the one that makes the object. */
    private static List<String> runIn(List<String> lines) {
        List<String> run = new ArrayList<>();
        boolean inside = false;
        for (String line : lines) {
            if (line.startsWith("```")) {
                inside = line.equals("```java");
            } else if (inside && !line.isBlank() && !line.equals("TypeLoom x = new TypeLoom();")) {
                run.add(line);
            }
        }
        return run;
    }

    private void makeRun(List<String> run) throws ReflectiveOperationException {
        TypeLoom x = new TypeLoom();
        due.is("README.md has a run", run.size() >= 20 && run.size() <= Calls.MOST, true);
        for (String line : run) {
            Matcher call = CALL.matcher(line);
            boolean readable = call.matches();
            due.is("can be read: " + line, readable, true);
            if (readable) {
                Object got = answer(x, call.group(2), call.group(3).split(", "));
                due.is("is as the comment says: " + line, got.toString().equals(call.group(4)), true);
                named.put(call.group(1), got);
                called.add(call.group(2));
            }
        }
    }

    private Object answer(TypeLoom x, String name, String[] arguments) throws ReflectiveOperationException {
        for (Method method : TypeLoom.class.getMethods()) {
            if (method.getName().equals(name) && method.getParameterCount() == arguments.length) {
                Object[] values = new Object[arguments.length];
                for (int i = 0; i < values.length; i++) {
                    values[i] = value(arguments[i], method.getParameterTypes()[i]);
                }
                return method.invoke(x, values);
            }
        }
        return "no such method";
    }

    private Object value(String text, Class<?> type) {
        if (type == boolean.class) {
            return Boolean.valueOf(text);
        }
        Object value = text.equals("TypeLoom.NONE") ? Integer.valueOf(TypeLoom.NONE) : named.get(text);
        long number = value instanceof Integer known ? known : Long.decode(text);
        return type == long.class ? (Object) number : (Object) (int) number;
    }

    private void lookForMethods(List<String> lines) {
        for (Method method : TypeLoom.class.getDeclaredMethods()) {
            if (Modifier.isPublic(method.getModifiers())) {
                String name = method.getName();
                due.is("the run calls " + name, called.contains(name), true);
                boolean told = lines.stream().anyMatch(line -> line.startsWith("| `" + name + "("));
                due.is("a table tells " + name, told, true);
            }
        }
    }
}
