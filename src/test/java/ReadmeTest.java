import java.lang.reflect.Method;
import java.lang.reflect.Modifier;
import java.nio.file.Files;
import java.nio.file.Path;
import java.util.List;
import java.util.Set;
import java.util.TreeSet;
import java.util.regex.Matcher;
import java.util.regex.Pattern;
import java.util.stream.Stream;

/** The calls of README.md answer what stands behind them, and nothing of the face and no test is left out there. */
public final class ReadmeTest {
    private static final Checks CHECKS = new Checks();
    private static final String NEW_OBJECT = "TriggerScopes scope = new TriggerScopes();";
    private static final Pattern TYPED =
            Pattern.compile("for \\(char letter : \"([^\"]*)\"\\.toCharArray\\(\\)\\) scope\\.type\\(letter\\);");
    private static final Pattern CALL = Pattern.compile("scope\\.(\\w+)\\(([^)]*)\\); +// (-?\\w+)(: .+)?");

    private static TriggerScopes scope = null;
    private static int calls = 0;
    private static final Set<String> NAMES = new TreeSet<>();

    public static void main(String[] args) throws Exception {
        List<String> lines = Files.readAllLines(Path.of("README.md"));
        boolean within = false;
        for (String line : lines) {
            if (line.startsWith("```")) {
                within = line.equals("```java");
            } else if (within) {
                follow(line);
            }
        }
        for (Method method : TriggerScopes.class.getDeclaredMethods()) {
            if (Modifier.isPublic(method.getModifiers())) {
                CHECKS.isTrue("README.md calls " + method.getName(), NAMES.contains(method.getName()));
            }
        }
        CHECKS.isTrue("README.md keeps to 512 calls of one object", calls <= 512);
        namesEveryTest(String.join("\n", lines));
        CHECKS.end();
    }

    private static void follow(String line) throws Exception {
        Matcher typed = TYPED.matcher(line);
        Matcher call = CALL.matcher(line);
        if (line.equals(NEW_OBJECT)) {
            scope = new TriggerScopes();
        } else if (scope != null && typed.matches()) {
            Checks.typeAll(scope, typed.group(1));
            calls += typed.group(1).length();
        } else if (scope != null && call.matches()) {
            CHECKS.due(line, answer(call.group(1), call.group(2)), number(call.group(3)));
            calls++;
        } else {
            CHECKS.isTrue("README.md has a line that no test follows: " + line, false);
        }
    }

    private static int answer(String name, String written) throws Exception {
        String[] parts = written.isEmpty() ? new String[0] : written.split(", ");
        Class<?>[] types = new Class<?>[parts.length];
        Object[] numbers = new Object[parts.length];
        for (int i = 0; i < parts.length; i++) {
            types[i] = int.class;
            numbers[i] = parts[i].startsWith("'") ? parts[i].charAt(1) : Integer.parseInt(parts[i]);
        }
        NAMES.add(name);
        return (Integer) TriggerScopes.class.getMethod(name, types).invoke(scope, numbers);
    }

    private static int number(String written) throws Exception {
        boolean constant = Character.isLetter(written.charAt(0));
        return constant ? TriggerScopes.class.getField(written).getInt(null) : Integer.parseInt(written);
    }

    private static void namesEveryTest(String readme) throws Exception {
        try (Stream<Path> files = Files.list(Path.of("src/test/java"))) {
            for (Path file : files.toList()) {
                String name = file.getFileName().toString().replace(".java", "");
                if (name.endsWith("Test")) {
                    CHECKS.isTrue("README.md names " + name, readme.contains("`" + name + "`"));
                }
            }
        }
        CHECKS.isTrue("README.md tells how the tests are run", readme.contains("`.ci/run`"));
    }
}
