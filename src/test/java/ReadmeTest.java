import java.lang.reflect.Method;
import java.lang.reflect.Modifier;
import java.nio.charset.StandardCharsets;
import java.nio.file.Files;
import java.nio.file.Path;
import java.util.List;
import java.util.regex.Matcher;
import java.util.regex.Pattern;

/** README.md: its calls, made one behind the other, answer what it says. Runs from the project's folder. */
public final class ReadmeTest {
    private static final Pattern CALL = Pattern.compile("x\\.(\\w+)\\(([^)]*)\\); *// (-?\\d+)(:.*)?");

    public static void main(String[] args) throws Exception {
        List<String> lines = Files.readAllLines(Path.of("README.md"), StandardCharsets.UTF_8);
        calls(lines);
        names(String.join("\n", lines));
        Due.end("ReadmeTest");
    }

    private static void calls(List<String> lines) throws Exception {
        MaidsMemory x = null;
        int made = 0;
        boolean isCode = false;
        for (String line : lines) {
            if (line.startsWith("```")) {
                isCode = line.equals("```java");
            } else if (isCode && line.equals("MaidsMemory x = new MaidsMemory();")) {
                x = new MaidsMemory();
            } else if (isCode) {
                Matcher call = CALL.matcher(line);
                boolean isCall = x != null && call.matches();
                Due.holds("README.md: a call with its answer: " + line, isCall);
                if (isCall) {
                    Due.is("README.md: " + line, answer(x, call.group(1), call.group(2)), Long.parseLong(call.group(3)));
                    made++;
                }
            }
        }
        Due.holds("README.md: no calls", made > 0);
    }

    private static long answer(MaidsMemory x, String name, String told) throws Exception {
        String[] parts = told.isEmpty() ? new String[0] : told.split(", ");
        for (Method method : MaidsMemory.class.getDeclaredMethods()) {
            if (method.getName().equals(name) && method.getParameterCount() == parts.length) {
                Object[] arguments = new Object[parts.length];
                for (int i = 0; i < parts.length; i++) {
                    long v = parts[i].startsWith("'") ? parts[i].charAt(1) : Long.parseLong(parts[i]);
                    boolean asLong = method.getParameterTypes()[i] == long.class;
                    arguments[i] = asLong ? (Object) v : (Object) (int) v;
                }
                return ((Number) method.invoke(x, arguments)).longValue();
            }
        }
        throw new IllegalArgumentException("no such call: " + name + "(" + told + ")");
    }

    private static void names(String text) {
        for (Method method : MaidsMemory.class.getDeclaredMethods()) {
            if (Modifier.isPublic(method.getModifiers())) {
                Due.holds("README.md: names " + method.getName(), text.contains("`" + method.getName() + "`"));
            }
        }
    }
}
