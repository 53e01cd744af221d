import java.io.IOException;
import java.lang.reflect.Method;
import java.lang.reflect.Modifier;
import java.nio.file.Files;
import java.nio.file.Path;
import java.util.regex.Matcher;
import java.util.regex.Pattern;

/** README.md is true: its calls answer what it says, and each call of the face stands there. */
public final class ReadmeTests {
    private static final Pattern CALL = Pattern.compile("x\\.([a-z]+)\\(([^)]*)\\);\\s*// (-?\\d+)(?!\\d).*");

    public static void main(String[] args) throws IOException, ReflectiveOperationException {
        String readme = Files.readString(Path.of("README.md"));
        calls(readme);
        names(readme);
        Calls.finish("readme");
    }

    /** The calls are made one by one on one object, as they stand there. */
    private static void calls(String readme) throws ReflectiveOperationException {
        Calls.about("README.md's calls");
        Matcher block = Pattern.compile("(?s)```java\n(.*?)```").matcher(readme);
        if (!block.find()) {
            Calls.fail("there are none");
            return;
        }
        RoadWater x = new RoadWater();
        int made = 0;
        for (String line : block.group(1).split("\n")) {
            Matcher call = CALL.matcher(line);
            if (call.matches()) {
                Calls.due(line, answer(x, call.group(1), call.group(2)), Integer.parseInt(call.group(3)));
                made++;
            } else if (!line.isBlank() && !line.startsWith("//") && !line.equals("RoadWater x = new RoadWater();")) {
                Calls.fail("not a call with its answer: " + line);
            }
        }
        Calls.due("how many calls there are", made, 23);
    }

    private static int answer(RoadWater x, String name, String numbers) throws ReflectiveOperationException {
        String[] words = numbers.isEmpty() ? new String[0] : numbers.split(", ");
        Class<?>[] types = new Class<?>[words.length];
        Object[] values = new Object[words.length];
        for (int i = 0; i < words.length; i++) {
            types[i] = int.class;
            values[i] = Long.decode(words[i]).intValue();
        }
        return (Integer) RoadWater.class.getMethod(name, types).invoke(x, values);
    }

    private static void names(String readme) {
        Calls.about("README.md's names");
        for (Method method : RoadWater.class.getDeclaredMethods()) {
            if (Modifier.isPublic(method.getModifiers()) && !readme.contains("`" + method.getName() + "`")
                    && !readme.contains("`" + method.getName() + "()`")) {
                Calls.fail("missing: " + method.getName());
            }
        }
    }
}
