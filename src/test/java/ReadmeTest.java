import java.io.IOException;
import java.lang.reflect.InvocationTargetException;
import java.lang.reflect.Method;
import java.lang.reflect.Modifier;
import java.nio.file.Files;
import java.nio.file.Path;
import java.util.HashMap;
import java.util.HashSet;
import java.util.Map;
import java.util.Set;
import java.util.regex.Matcher;
import java.util.regex.Pattern;

/** Makes the calls of README.md's example, and looks whether each one answers what stands beside it. */
public final class ReadmeTest {
    private static final Pattern EXAMPLE = Pattern.compile("(?s)```java\n(.*?)```");
    private static final Pattern CALL =
            Pattern.compile("(?:int (\\w+) = )?slide\\.(\\w+)\\((.*?)\\); +// (throws \\w+|[^:\\s]+)(: .+)?");
    private static final Check CHECK = new Check();
    private static final SlideLayout SLIDE = new SlideLayout();
    private static final Map<String, Object> NAMED = new HashMap<>();

    public static void main(String[] args) throws IOException {
        String readme = Files.readString(Path.of("README.md"));
        Matcher example = EXAMPLE.matcher(readme);
        CHECK.compare("README.md has an example", true, example.find());
        for (String line : example.group(1).split("\n")) {
            if (!line.isBlank() && !line.equals("SlideLayout slide = new SlideLayout();")) {
                tryLine(line);
            }
        }
        CHECK.compare("README.md has one example", false, example.find());
        Set<String> names = new HashSet<>();
        for (Method method : SlideLayout.class.getDeclaredMethods()) {
            String name = method.getName();
            if (Modifier.isPublic(method.getModifiers()) && names.add(name)) {
                CHECK.compare("README.md names " + name, true, readme.contains("`" + name + "`"));
            }
        }
        CHECK.close("ReadmeTest");
    }

    private static void tryLine(String line) {
        Matcher call = CALL.matcher(line);
        if (!call.matches()) {
            CHECK.compare("README.md: " + line, "a call with its answer", "none");
            return;
        }
        Object answer = answerOf(call.group(2), call.group(3).isEmpty() ? new String[0] : call.group(3).split(", "));
        CHECK.compare("README.md: " + line, call.group(4), written(answer));
        if (call.group(1) != null) {
            NAMED.put(call.group(1), answer);
        }
    }

    private static Object answerOf(String name, String[] arguments) {
        for (Method method : SlideLayout.class.getMethods()) {
            if (method.getName().equals(name) && method.getParameterCount() == arguments.length) {
                try {
                    return method.invoke(SLIDE, valuesOf(arguments));
                } catch (InvocationTargetException e) {
                    return "throws " + e.getCause().getClass().getSimpleName();
                } catch (IllegalAccessException e) {
                    return e.getMessage();
                }
            }
        }
        return "no such call";
    }

    private static Object[] valuesOf(String[] arguments) {
        Object[] values = new Object[arguments.length];
        for (int i = 0; i < arguments.length; i++) {
            values[i] = valueOf(arguments[i]);
        }
        return values;
    }

    private static Object valueOf(String argument) {
        if (NAMED.containsKey(argument)) {
            return NAMED.get(argument);
        }
        if (argument.startsWith("'")) {
            return argument.charAt(1);
        }
        return argument.matches("true|false") ? (Object) Boolean.valueOf(argument) : Integer.valueOf(argument);
    }

    private static String written(Object answer) {
        return answer instanceof Character ? "'" + answer + "'" : String.valueOf(answer);
    }
}
