import java.io.IOException;
import java.lang.reflect.Field;
import java.lang.reflect.InvocationTargetException;
import java.lang.reflect.Method;
import java.lang.reflect.Modifier;
import java.nio.file.Files;
import java.nio.file.Path;
import java.util.List;
import java.util.regex.Matcher;
import java.util.regex.Pattern;

/** README.md: its example is called, line by line, and nothing of the public face is left out of it. */
public final class ReadmeTest {
    // Such as: log.drop(1);   // 1: but taken away
    private static final Pattern CALL = Pattern.compile("log\\.(\\w+)\\((.*)\\); +// ([^:]+): .*");

    public static void main(String[] args) throws IOException, IllegalAccessException {
        String text = Files.readString(Path.of("README.md"));
        everyCallIsNamed(text);
        everyConstantIsNamed(text);
        List<String> lines = exampleOf(text);
        Check.same("first line of the example", lines.get(0), "PauseLog log = new PauseLog();");
        PauseLog log = new PauseLog();
        for (String line : lines.subList(1, lines.size())) {
            answerIsAsWritten(log, line);
        }
        Check.end();
    }

    private static List<String> exampleOf(String text) {
        String behind = text.substring(text.indexOf("```java\n") + 8);
        return behind.substring(0, behind.indexOf("```")).lines().toList();
    }

    private static void answerIsAsWritten(PauseLog log, String line) throws IllegalAccessException {
        Matcher call = CALL.matcher(line);
        Check.same("the example's '" + line + "' is a call with its answer", call.matches(), true);
        if (call.matches()) {
            Check.same(line, answerOf(log, methodOf(call.group(1)), argumentsOf(call.group(2))), call.group(3));
        }
    }

    private static String answerOf(PauseLog log, Method method, Object[] arguments) throws IllegalAccessException {
        try {
            return String.valueOf(method.invoke(log, arguments));
        } catch (InvocationTargetException e) {
            return e.getCause().getClass().getSimpleName();
        }
    }

    private static Method methodOf(String name) {
        for (Method method : PauseLog.class.getDeclaredMethods()) {
            if (method.getName().equals(name)) {
                return method;
            }
        }
        throw new IllegalStateException("README.md calls " + name + ", which is no method");
    }

    private static Object[] argumentsOf(String written) {
        if (written.isEmpty()) {
            return new Object[0];
        }
        String[] each = written.split(", ");
        Object[] arguments = new Object[each.length];
        for (int n = 0; n < each.length; n++) {
            arguments[n] = each[n].startsWith("'") ? (Object) each[n].charAt(1) : (Object) Integer.valueOf(each[n]);
        }
        return arguments;
    }

    private static void everyCallIsNamed(String text) {
        for (Method method : PauseLog.class.getDeclaredMethods()) {
            if (Modifier.isPublic(method.getModifiers())) {
                Check.same("README.md tells of " + method.getName(), text.contains("`" + method.getName() + "("), true);
                Check.same("its example calls " + method.getName(), text.contains("\nlog." + method.getName() + "("), true);
            }
        }
    }

    private static void everyConstantIsNamed(String text) throws IllegalAccessException {
        for (Field field : PauseLog.class.getDeclaredFields()) {
            if (Modifier.isPublic(field.getModifiers())) {
                String name = "`" + field.getName() + "`";
                boolean named = text.contains(name + ", " + field.get(null)) || text.contains("| " + field.get(null) + " | " + name);
                Check.same("README.md tells of " + name + " and its number", named, true);
            }
        }
    }
}
