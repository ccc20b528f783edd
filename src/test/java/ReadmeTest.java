import java.io.IOException;
import java.lang.reflect.InvocationTargetException;
import java.lang.reflect.Method;
import java.lang.reflect.Modifier;
import java.nio.file.Files;
import java.nio.file.Path;
import java.util.TreeSet;
import java.util.regex.Matcher;
import java.util.regex.Pattern;

/** README.md: each call of its examples answers what stands behind it, and the table names all calls of the face. */
public final class ReadmeTest {
    private static final Due DUE = new Due("ReadmeTest");
    private static final Pattern CALL = Pattern.compile("house\\.(\\w+)\\(([^)]*)\\);\\s+// ([^:]+)(:.*)?");
    private static final Pattern NAME = Pattern.compile("`(\\w+)`");

    public static void main(String[] args) throws IOException, ReflectiveOperationException {
        RankHouse house = null;
        boolean example = false;
        int calls = 0;
        TreeSet<String> missing = face();
        for (String line : Files.readAllLines(Path.of("README.md"))) {
            if (line.startsWith("```")) {
                example = line.equals("```java");
            } else if (example && line.contains("new RankHouse()")) {
                house = new RankHouse();
            } else if (example) {
                call(house, line);
                calls++;
            } else if (line.startsWith("|")) {
                NAME.matcher(line).results().forEach(name -> missing.remove(name.group(1)));
            }
        }
        DUE.yes("README.md has examples", calls > 20);
        DUE.is("calls that the table leaves out: " + missing, missing.size(), 0);
        DUE.end();
    }

    private static TreeSet<String> face() {
        TreeSet<String> names = new TreeSet<>();
        for (Method method : RankHouse.class.getDeclaredMethods()) {
            if (Modifier.isPublic(method.getModifiers())) {
                names.add(method.getName());
            }
        }
        return names;
    }

    private static void call(RankHouse house, String line) throws ReflectiveOperationException {
        Matcher told = CALL.matcher(line);
        if (!told.matches()) {
            DUE.tell("no call with an answer: " + line);
            return;
        }
        DUE.same(line, answer(house, told.group(1), told.group(2).split(", ")), told.group(3));
    }

    private static String answer(RankHouse house, String name, String[] texts) throws ReflectiveOperationException {
        for (Method method : RankHouse.class.getMethods()) {
            if (method.getName().equals(name)) {
                try {
                    return "" + method.invoke(house, numbers(method.getParameterTypes(), texts));
                } catch (InvocationTargetException e) {
                    return e.getCause().getClass().getSimpleName();
                }
            }
        }
        return "no such call";
    }

    private static Object[] numbers(Class<?>[] types, String[] texts) {
        Object[] numbers = new Object[types.length];
        for (int i = 0; i < types.length; i++) {
            long number = Long.decode(texts[i]);
            if (types[i] == long.class) {
                numbers[i] = number;
            } else {
                numbers[i] = (int) number;
            }
        }
        return numbers;
    }
}
