import java.io.IOException;
import java.lang.reflect.InvocationTargetException;
import java.lang.reflect.Method;
import java.lang.reflect.Modifier;
import java.nio.file.Files;
import java.nio.file.Path;
import java.util.HashMap;
import java.util.List;
import java.util.Map;
import java.util.regex.Matcher;
import java.util.regex.Pattern;

/** Calls what README.md shows, line by line: each line answers the number that stands behind it. */
public final class ReadmeTests {
    private static final Path README = Path.of("README.md");
    private static final Pattern CALL =
        Pattern.compile("(?:int (\\w+) = )?tower\\.(\\w+)\\((.*?)\\); *// (-?\\d+)\\b.*");

    private final AlarmTower tower = new AlarmTower();
    private final Map<String, Long> names = new HashMap<>();

    private ReadmeTests() {
    }

    public static void main(String[] args) throws IOException {
        Expect.part("README.md");
        List<String> lines = Files.readAllLines(README);
        int begin = lines.indexOf("```java");
        int end = begin + lines.subList(Math.max(0, begin), lines.size()).indexOf("```");
        if (begin < 0 || end <= begin + 1) {
            Expect.fault("no example was found");
        } else {
            new ReadmeTests().callAll(lines.subList(begin + 1, end));
        }
        toldOf(String.join("\n", lines));
        Expect.end();
    }

    private static void toldOf(String readme) {
        for (Method method : AlarmTower.class.getDeclaredMethods()) {
            if (Modifier.isPublic(method.getModifiers()) && !readme.contains("`" + method.getName() + "`")) {
                Expect.fault("tells nothing of " + method.getName());
            }
        }
    }

    private void callAll(List<String> example) {
        for (String line : example) {
            Matcher found = CALL.matcher(line);
            if (found.matches()) {
                long got = call(found.group(2), found.group(3).split(", *|$"));
                names.put(String.valueOf(found.group(1)), got);
                Expect.due(line, got, Long.parseLong(found.group(4)));
            } else if (!line.isEmpty() && !line.startsWith("// ") && !line.equals("AlarmTower tower = new AlarmTower();")) {
                Expect.fault("not understood: " + line);
            }
        }
    }

    private long call(String name, String[] texts) {
        for (Method method : AlarmTower.class.getDeclaredMethods()) {
            if (method.getName().equals(name) && Modifier.isPublic(method.getModifiers())) {
                try {
                    return ((Number) method.invoke(tower, arguments(method.getParameterTypes(), texts))).longValue();
                } catch (IllegalAccessException | InvocationTargetException thrown) {
                    Expect.fault(name + " can't be called: " + thrown);
                }
            }
        }
        Expect.fault("no such call: " + name);
        return 0;
    }

    private Object[] arguments(Class<?>[] types, String[] texts) {
        Object[] values = new Object[types.length];
        for (int i = 0; i < types.length && i < texts.length; i++) {
            String text = names.containsKey(texts[i]) ? names.get(texts[i]).toString() : texts[i];
            if (types[i] == double.class) {
                values[i] = Double.valueOf(text);
            } else if (types[i] == long.class) {
                values[i] = Long.valueOf(text);
            } else {
                values[i] = Integer.valueOf(text);
            }
        }
        return values;
    }
}
