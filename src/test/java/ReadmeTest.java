import java.io.IOException;
import java.lang.reflect.InvocationTargetException;
import java.lang.reflect.Method;
import java.lang.reflect.Modifier;
import java.nio.charset.StandardCharsets;
import java.nio.file.Files;
import java.nio.file.Path;
import java.util.ArrayList;
import java.util.Arrays;
import java.util.List;
import java.util.Set;
import java.util.TreeSet;
import java.util.regex.Matcher;
import java.util.regex.Pattern;
import java.util.stream.Stream;

/**
 * The examples of README.md: each call in them is made, and answers what stands behind it; each group and each call of
 * the face has an example, and each test is named. It is run where the project lies.
 */
final class ReadmeTest {
    private static final Path README = Path.of("README.md");
    private static final Path TESTS = Path.of("src/test/java");
    private static final String NEW_RECEIVER = "LightReceiver receiver = new LightReceiver();";
    private static final String TYPE = "for \\(char sign : \"([^\"]*)\"\\.toCharArray\\(\\)\\) receiver\\.append\\(sign\\);";
    private static final String[] GROUPS = {"Light", "Settings", "Queries", "Forecasts", "Light text", "Undo"};
    /** A call, and behind it what it answers, up to a colon with more words. */
    private static final Pattern CALL = Pattern.compile("receiver\\.(\\w+)\\(([^()]*)\\); +// ([^:]+)(:.*)?");

    private final Set<String> shown = new TreeSet<>();
    private LightReceiver receiver = null;

    public static void main(String[] args) throws IOException, ReflectiveOperationException {
        List<String> lines = Files.readAllLines(README, StandardCharsets.UTF_8);
        ReadmeTest test = new ReadmeTest();
        Set<String> headings = new TreeSet<>();
        String heading = "";
        boolean isExample = false;
        for (String line : lines) {
            if (line.startsWith("```")) {
                isExample = line.equals("```java");
                test.receiver = null;
            } else if (line.startsWith("#")) {
                heading = line.replaceFirst("^#+ ", "");
            } else if (isExample && !line.isBlank()) {
                headings.add(heading);
                test.tryLine(line);
            }
        }
        for (String group : GROUPS) {
            Check.same("an example of " + group, headings.contains(group), true);
        }
        test.allAreShown();
        allTestsAreNamed(String.join("\n", lines));
        Check.end();
    }

    private void tryLine(String line) throws ReflectiveOperationException {
        Matcher call = CALL.matcher(line);
        Matcher typed = Pattern.compile(TYPE).matcher(line);
        if (line.equals(NEW_RECEIVER)) {
            receiver = new LightReceiver();
        } else if (receiver != null && typed.matches()) {
            Check.type(receiver, typed.group(1));
            shown.add("append");
        } else if (receiver != null && call.matches()) {
            shown.add(call.group(1));
            Check.same("README.md: " + line, answer(call.group(1), call.group(2)), call.group(3).trim());
        } else {
            Check.same("README.md", "a line that is no call: " + line, "a call");
        }
    }

    private String answer(String name, String arguments) throws ReflectiveOperationException {
        List<Object> numbers = new ArrayList<>();
        for (String argument : arguments.isEmpty() ? new String[0] : arguments.split(", ")) {
            numbers.add(argument.startsWith("'") ? (int) argument.charAt(1) : Integer.parseInt(argument));
        }
        Class<?>[] types = new Class<?>[numbers.size()];
        Arrays.fill(types, int.class);
        Method method = LightReceiver.class.getMethod(name, types);
        try {
            return String.valueOf(method.invoke(receiver, numbers.toArray()));
        } catch (InvocationTargetException thrown) {
            return "throws " + thrown.getCause().getClass().getSimpleName();
        }
    }

    private void allAreShown() {
        for (Method method : LightReceiver.class.getDeclaredMethods()) {
            if (Modifier.isPublic(method.getModifiers())) {
                Check.same("an example of " + method.getName(), shown.contains(method.getName()), true);
            }
        }
    }

    private static void allTestsAreNamed(String text) throws IOException {
        try (Stream<Path> files = Files.list(TESTS)) {
            for (Path file : (Iterable<Path>) files::iterator) {
                String name = file.getFileName().toString().replace(".java", "");
                Check.same(name + " is named in README.md", text.contains("`" + name + "`"), true);
            }
        }
    }
}
