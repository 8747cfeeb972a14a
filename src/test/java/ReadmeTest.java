import java.lang.reflect.Method;
import java.lang.reflect.Modifier;
import java.nio.file.Files;
import java.nio.file.Path;
import java.util.regex.Matcher;
import java.util.regex.Pattern;

/** README.md tells of every call, and what it says that a call answers is so. Runs in the project's folder. */
public final class ReadmeTest extends Due {
    private static final Pattern CALL = Pattern.compile("w\\.(\\w+)\\((.*?)\\);\\s*// (-?\\d+)\\b.*");

    public static void main(String[] args) throws Exception {
        String readme = Files.readString(Path.of("README.md"));
        example(readme);
        everyCall(readme);
        end();
    }

    private static void example(String readme) throws Exception {
        String code = readme.replaceAll("(?s).*?```java\n(.*?)```.*", "$1");
        WaterMen w = new WaterMen();
        for (String line : code.split("\n")) {
            if (line.equals("WaterMen w = new WaterMen();")) continue;
            Matcher call = CALL.matcher(line);
            due("a call with its answer: " + line, call.matches() ? 1 : 0, 1);
            if (call.matches()) due(line, answer(w, call.group(1), call.group(2)), Long.parseLong(call.group(3)));
        }
    }

    private static long answer(WaterMen w, String name, String inputs) throws Exception {
        Method method = methodOf(name);
        Class<?>[] types = method.getParameterTypes();
        String[] texts = inputs.isEmpty() ? new String[0] : inputs.split(", ");
        Object[] values = new Object[texts.length];
        for (int i = 0; i < texts.length; i++) {
            if (types[i] == boolean.class) values[i] = Boolean.valueOf(texts[i]);
            else if (types[i] == long.class) values[i] = Long.decode(texts[i].replaceAll("L$", ""));
            else values[i] = Integer.decode(texts[i]);
        }
        return ((Number) method.invoke(w, values)).longValue();
    }

    private static Method methodOf(String name) {
        for (Method m : WaterMen.class.getDeclaredMethods()) {
            if (m.getName().equals(name)) return m;
        }
        throw new IllegalArgumentException("no call " + name);
    }

    private static void everyCall(String readme) {
        for (Method m : WaterMen.class.getDeclaredMethods()) {
            if (!Modifier.isPublic(m.getModifiers())) continue;
            Matcher told = Pattern.compile("`" + m.getName() + "\\(([^`]*)\\)`").matcher(readme);
            boolean isTold = told.find();
            due("README tells of " + m.getName(), isTold ? 1 : 0, 1);
            if (!isTold) continue;
            int inputs = told.group(1).isEmpty() ? 0 : told.group(1).split(", ").length;
            due("README's inputs of " + m.getName(), inputs, m.getParameterCount());
        }
    }
}
