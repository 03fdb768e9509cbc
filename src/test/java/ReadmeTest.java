import java.io.IOException;
import java.lang.reflect.Method;
import java.lang.reflect.Modifier;
import java.nio.file.Files;
import java.nio.file.Path;
import java.util.List;
import java.util.Set;
import java.util.TreeSet;
import java.util.regex.Matcher;
import java.util.regex.Pattern;

/** README.md: each call that it shows has the answer that it shows; it names every call and every test. */
public final class ReadmeTest {
    private static final Checks T = new Checks("ReadmeTest");
    private static final Pattern CALL = Pattern.compile("x\\.(\\w+)\\(([^)]*)\\); *// (-?\\d+)\\b.*");

    public static void main(String[] args) throws IOException, ReflectiveOperationException {
        String text = Files.readString(Path.of("README.md"));
        T.due("calls shown", shown(text) > 20 ? 1 : 0, 1);
        names(text);
        T.finish();
    }

    private static int shown(String text) throws ReflectiveOperationException {
        ReceiptLeft x = new ReceiptLeft();
        int calls = 0;
        for (String line : text.split("\n")) {
            Matcher m = CALL.matcher(line);
            if (m.matches()) {
                Method call = named(m.group(1));
                T.due(line, ((Number) call.invoke(x, numbers(m.group(2), call))).longValue(), Long.parseLong(m.group(3)));
                calls++;
            } else {
                T.due("a call without its answer: " + line, line.startsWith("x.") ? 1 : 0, 0);
            }
        }
        return calls;
    }

    private static Method named(String name) {
        for (Method method : ReceiptLeft.class.getMethods()) {
            if (method.getName().equals(name)) {
                return method;
            }
        }
        throw new IllegalArgumentException(name);
    }

    private static Object[] numbers(String text, Method call) {
        Class<?>[] types = call.getParameterTypes();
        Object[] numbers = new Object[types.length];
        String[] told = text.isEmpty() ? new String[0] : text.split(", *");
        T.due(call.getName() + " has so many numbers", told.length, types.length);
        for (int i = 0; i < types.length; i++) {
            long v = Long.decode(told[i]);
            if (types[i] == long.class) {
                numbers[i] = v;
            } else {
                numbers[i] = (int) v;
            }
        }
        return numbers;
    }

    private static void names(String text) throws IOException {
        Set<String> words = new TreeSet<>(List.of(text.split("\\W+")));
        for (Method method : ReceiptLeft.class.getDeclaredMethods()) {
            if (Modifier.isPublic(method.getModifiers())) {
                T.due(method.getName() + " is named", words.contains(method.getName()) ? 1 : 0, 1);
            }
        }
        try (var files = Files.list(Path.of("src/test/java"))) {
            files.map(file -> file.getFileName().toString().replace(".java", "")).filter(name -> name.endsWith("Test"))
                .forEach(name -> T.due(name + " is named", words.contains(name) ? 1 : 0, 1));
        }
    }
}
