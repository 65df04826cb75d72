import java.io.IOException;
import java.lang.reflect.Method;
import java.nio.file.Files;
import java.nio.file.Path;
import java.util.HashSet;
import java.util.Set;
import java.util.regex.Matcher;
import java.util.regex.Pattern;

/** The calls that README.md shows have the answers that stand behind them, and it shows every method once. */
public final class ReadmeTest {
    private static final Pattern CALL = Pattern.compile("yard\\.(\\w+)\\((.*?)\\); +// ([^: ]+).*");

    private static LiveryYard yard = null;
    private static final Set<String> shown = new HashSet<>();

    public static void main(String[] args) throws IOException, ReflectiveOperationException {
        boolean inCode = false;
        for (String line : Files.readAllLines(Path.of("README.md"))) {
            if (line.startsWith("```")) {
                inCode = line.equals("```java");
            } else if (inCode) {
                show(line);
            }
        }
        for (Method method : LiveryYard.class.getMethods()) {
            if (method.getDeclaringClass() == LiveryYard.class) {
                Check.same("README.md shows " + method.getName(), shown.contains(method.getName()), true);
            }
        }
        everyTestIsNamed();
        Check.end();
    }

    private static void show(String line) throws ReflectiveOperationException {
        if (line.equals("LiveryYard yard = new LiveryYard();")) {
            yard = new LiveryYard();
            return;
        }
        Matcher call = CALL.matcher(line);
        if (!call.matches() || yard == null) {
            Check.same("is a call with its answer: " + line, false, true);
            return;
        }
        shown.add(call.group(1));
        String answer = String.valueOf(make(call.group(1), call.group(2)));
        Check.same(line + " .. the answer was " + answer, answer.equals(call.group(3)), true);
    }

    private static Object make(String name, String listed) throws ReflectiveOperationException {
        String[] words = listed.isEmpty() ? new String[0] : listed.split(", ");
        for (Method method : LiveryYard.class.getMethods()) {
            if (method.getName().equals(name) && method.getParameterCount() == words.length) {
                Object[] values = new Object[words.length];
                for (int i = 0; i < words.length; i++) {
                    boolean ofBoolean = method.getParameterTypes()[i] == boolean.class;
                    values[i] = ofBoolean ? (Object) words[i].equals("true") : (Object) Integer.decode(words[i]);
                }
                return method.invoke(yard, values);
            }
        }
        return "no such method";
    }

    private static void everyTestIsNamed() throws IOException {
        String page = Files.readString(Path.of("README.md"));
        try (var files = Files.list(Path.of("src/test/java"))) {
            for (Path file : (Iterable<Path>) files::iterator) {
                String name = file.getFileName().toString().replace(".java", "");
                if (name.endsWith("Test")) {
                    Check.same("README.md names " + name, page.contains("`" + name + "`"), true);
                }
            }
        }
    }
}
