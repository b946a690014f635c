import java.io.IOException;
import java.lang.reflect.Field;
import java.lang.reflect.Method;
import java.lang.reflect.Modifier;
import java.nio.file.Files;
import java.nio.file.Path;
import java.util.ArrayList;
import java.util.List;
import java.util.regex.Matcher;
import java.util.regex.Pattern;

/** README.md: its calls answer as it says, and every call and constant of the class stands in it. */
public final class ReadmeTest {
    private static final Path README = Path.of("README.md");
    private static final Pattern CALL = Pattern.compile("lamp\\.(\\w+)\\((.*)\\); +// (-?\\d+)(: .*)?");
    private static final Due due = new Due("ReadmeTest");

    public static void main(String[] args) throws IOException, ReflectiveOperationException {
        List<String> lines = Files.readAllLines(README);
        examples(lines);
        calls(String.join("\n", lines));
        constants(String.join("\n", lines));
        due.end();
    }

    private static void examples(List<String> lines) throws ReflectiveOperationException {
        due.of("an example");
        OneLamp x = null;
        boolean isCode = false;
        int examples = 0;
        for (String line : lines) {
            if (line.startsWith("```")) {
                isCode = line.equals("```java");
            } else if (isCode && line.equals("OneLamp lamp = new OneLamp();")) {
                x = new OneLamp();
            } else if (isCode) {
                Matcher call = CALL.matcher(line);
                boolean isCall = x != null && call.matches();
                due.is("\"" + line + "\" is a call with its answer", isCall ? 1 : 0, 1);
                if (isCall) {
                    due.is(line, answer(x, call.group(1), call.group(2)), Long.parseLong(call.group(3)));
                    examples++;
                }
            }
        }
        due.is("there are some", examples > 0 ? 1 : 0, 1);
    }

    private static long answer(OneLamp x, String name, String numbers) throws ReflectiveOperationException {
        String[] told = numbers.isEmpty() ? new String[0] : numbers.split(", ");
        for (Method method : OneLamp.class.getDeclaredMethods()) {
            if (method.getName().equals(name) && method.getParameterCount() == told.length) {
                Object[] arguments = new Object[told.length];
                for (int k = 0; k < told.length; k++) {
                    long number = told[k].startsWith("'") ? told[k].charAt(1) : Long.parseLong(told[k]);
                    boolean isInt = method.getParameterTypes()[k] == int.class;
                    arguments[k] = isInt ? (Object) (int) number : (Object) number;
                }
                return ((Number) method.invoke(x, arguments)).longValue();
            }
        }
        throw new NoSuchMethodException(name + "(" + numbers + ")");
    }

    /** A row of a table each, with the arguments in the class's own order. */
    private static void calls(String readme) {
        due.of("the tables");
        for (Method method : OneLamp.class.getDeclaredMethods()) {
            if (Modifier.isPublic(method.getModifiers())) {
                List<String> types = new ArrayList<>();
                for (Class<?> type : method.getParameterTypes()) {
                    types.add(type.getName() + " \\w+");
                }
                String row = "(?m)^\\| `" + method.getName() + "\\(" + String.join(", ", types) + "\\)` \\|";
                due.is(method.getName() + " has a row", Pattern.compile(row).matcher(readme).results().count(), 1);
            }
        }
    }

    private static void constants(String readme) throws ReflectiveOperationException {
        due.of("the answers");
        for (Field field : OneLamp.class.getDeclaredFields()) {
            if (Modifier.isPublic(field.getModifiers())) {
                String told = "`" + field.getName() + "`,? \\(?" + field.getInt(null) + "\\b";
                due.is(field.getName() + " stands with its value", Pattern.compile(told).matcher(readme).find() ? 1 : 0, 1);
            }
        }
    }
}
