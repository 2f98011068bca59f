import java.io.IOException;
import java.lang.reflect.InvocationTargetException;
import java.lang.reflect.Method;
import java.nio.file.DirectoryStream;
import java.nio.file.Files;
import java.nio.file.Path;
import java.util.HashMap;
import java.util.List;
import java.util.Map;
import java.util.Set;
import java.util.TreeSet;
import java.util.regex.Matcher;
import java.util.regex.Pattern;

/**
 * Runs the examples of README.md as they stand there, so that what it says of the class's answers
 * is what the class answers. A line that this test can't read is a fault too: else it would stand
 * there untested.
 */
public final class SweepHandReadme {
    private static final String NEW_STORE = "SweepHand store = new SweepHand();";
    private static final Pattern LINE = Pattern.compile(
        "(?:(int|boolean) (\\w+) = )?store\\.(\\w+)\\((-?\\w*)\\);\\s+// (throws \\w+|-?\\w+)(?:: .+)?");
    private static int wrong = 0;
    private static int calls = 0;
    private static int examples = 0;
    private static final Set<String> CALLED = new TreeSet<>();

    private static void fault(String what) {
        wrong++;
        System.out.println("README.md: " + what);
    }

    private static Method methodOf(String name) {
        for (Method method : SweepHand.class.getMethods()) {
            if (method.getDeclaringClass() == SweepHand.class && method.getName().equals(name)) {
                return method;
            }
        }
        return null;
    }

    /** Null if the text is neither a number nor a name that an earlier line gave. */
    private static Object[] argumentsOf(String text, Map<String, String> names) {
        if (text.isEmpty()) {
            return new Object[0];
        }
        String number = names.getOrDefault(text, text);
        return number.matches("-?\\d{1,9}") ? new Object[] {Integer.valueOf(number)} : null;
    }

    private static String answerOf(SweepHand store, Method method, Object[] arguments) throws IllegalAccessException {
        try {
            Object answer = method.invoke(store, arguments);
            return method.getReturnType() == void.class ? "nothing" : String.valueOf(answer);
        } catch (InvocationTargetException e) {
            return "throws " + e.getCause().getClass().getSimpleName();
        }
    }

    private static void runLine(SweepHand store, String line, Map<String, String> names) throws IllegalAccessException {
        Matcher parts = LINE.matcher(line);
        Method method = parts.matches() ? methodOf(parts.group(3)) : null;
        if (method == null) {
            fault("can't be read: " + line);
            return;
        }
        boolean isTypeRight = parts.group(1) == null || parts.group(1).equals(method.getReturnType().getName());
        Object[] arguments = argumentsOf(parts.group(4), names);
        if (!isTypeRight || arguments == null || arguments.length != method.getParameterCount()) {
            fault("does not compile: " + line);
            return;
        }
        String got = answerOf(store, method, arguments);
        calls++;
        CALLED.add(parts.group(3));
        if (!got.equals(parts.group(5))) {
            fault("answered " + got + ": " + line);
        }
        if (parts.group(2) != null) {
            names.put(parts.group(2), got);
        }
    }

    private static void runExamples(List<String> lines) throws IllegalAccessException {
        boolean isJava = false;
        SweepHand store = null;
        Map<String, String> names = new HashMap<>();
        for (String line : lines) {
            if (line.startsWith("```")) {
                isJava = line.equals("```java");
                store = null;
                names.clear();
            } else if (isJava && line.equals(NEW_STORE)) {
                store = new SweepHand();
                examples++;
            } else if (isJava && store == null) {
                fault("an example without a store: " + line);
            } else if (isJava) {
                runLine(store, line, names);
            }
        }
    }

    private static void eachCallIsShown() {
        for (Method method : SweepHand.class.getMethods()) {
            if (method.getDeclaringClass() == SweepHand.class && !CALLED.contains(method.getName())) {
                fault("shows no call of " + method.getName() + "()");
            }
        }
    }

    private static void eachTestIsTold(String text) throws IOException {
        try (DirectoryStream<Path> tests = Files.newDirectoryStream(Path.of("src/test/java"), "*.java")) {
            for (Path test : tests) {
                if (!text.contains("- `src/test/java/" + test.getFileName() + "`: ")) {
                    fault("does not tell of " + test);
                }
            }
        }
    }

    public static void main(String[] args) throws IOException, IllegalAccessException {
        Path readme = Path.of("README.md");
        runExamples(Files.readAllLines(readme));
        eachCallIsShown();
        eachTestIsTold(Files.readString(readme));
        System.out.println(examples + " examples, " + calls + " calls: "
            + (wrong == 0 ? "all answers are as README.md says" : wrong + " things are not as due"));
        if (wrong != 0) {
            System.exit(1);
        }
    }
}
