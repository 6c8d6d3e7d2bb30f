import java.io.IOException;
import java.lang.reflect.Method;
import java.lang.reflect.Modifier;
import java.nio.file.Files;
import java.nio.file.Path;
import java.util.HashSet;
import java.util.Set;
import java.util.regex.Matcher;
import java.util.regex.Pattern;

/** The calls that README.md shows answer what it says, and it shows every call of the face. */
public final class ReadmeTest {
    private static final Pattern EXAMPLE = Pattern.compile("```java\n(.*?)```", Pattern.DOTALL);
    // A text in """ or in ", or a call with its answer.
    private static final Pattern LINE = Pattern.compile("House\\.text\\(house, (?:\"\"\"\n(.*?)\"\"\"|\"([^\"\n]*)\")\\);"
            + "|house\\.(\\w+)\\(([^)]*)\\);( *// (-?\\w+))?", Pattern.DOTALL);

    private ReadmeTest() {
    }

    public static void main(String[] args) throws IOException, ReflectiveOperationException {
        Matcher example = EXAMPLE.matcher(Files.readString(Path.of("README.md")));
        House.due("README.md has an example", example.find(), true);
        Set<String> shown = new HashSet<>();
        follow(example.group(1), shown);
        for (Method method : WeaveHouse.class.getDeclaredMethods()) {
            if (Modifier.isPublic(method.getModifiers())) {
                House.due("README.md shows " + method.getName(), shown.contains(method.getName()), true);
            }
        }
        House.finish();
    }

    private static void follow(String example, Set<String> shown) throws ReflectiveOperationException {
        WeaveHouse house = new WeaveHouse();
        Matcher line = LINE.matcher(example);
        while (line.find()) {
            if (line.group(3) == null) {
                House.text(house, line.group(1) != null ? line.group(1) : line.group(2));
                continue;
            }
            shown.add(line.group(3));
            House.due("README.md has an answer of " + line.group(), line.group(5) != null, true);
            if (line.group(5) != null) {
                String got = String.valueOf(answer(house, line.group(3), line.group(4).split(", ")));
                House.due("README.md: " + line.group() + " but the answer is " + got, got.equals(line.group(6)), true);
            }
        }
    }

    private static Object answer(WeaveHouse house, String name, String[] words) throws ReflectiveOperationException {
        for (Method method : WeaveHouse.class.getDeclaredMethods()) {
            if (Modifier.isPublic(method.getModifiers()) && method.getName().equals(name)) {
                Class<?>[] types = method.getParameterTypes();
                Object[] values = new Object[types.length];
                for (int i = 0; i < types.length; i++) {
                    values[i] = types[i] == boolean.class ? (Object) Boolean.valueOf(words[i]) : (Object) Integer.decode(words[i]);
                }
                return method.invoke(house, values);
            }
        }
        return "none: no such call";
    }
}
