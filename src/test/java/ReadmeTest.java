import java.io.File;
import java.io.IOException;
import java.lang.reflect.Method;
import java.nio.file.Files;
import java.nio.file.Path;
import java.util.List;
import java.util.regex.MatchResult;
import java.util.regex.Pattern;

/** What README.md says: its example is run line by line, and its table names every test that there is. */
final class ReadmeTest {
    /** A call on x, and behind it the answer with which its comment begins. */
    private static final Pattern CALL = Pattern.compile("(?m)^x\\.(\\w+)\\(([^)]*)\\);\\s*// (-?\\d+)(?=:|$).*$");
    private static final Pattern ANY_CALL = Pattern.compile("(?m)^x\\.");

    private static final Checks checks = new Checks("ReadmeTest");

    public static void main(String[] args) throws IOException, ReflectiveOperationException {
        String readme = Files.readString(Path.of("README.md"));
        example(readme.substring(readme.indexOf("```java"), readme.lastIndexOf("```")));
        namesEveryTest(readme);
        checks.finish();
    }

    private static void example(String text) throws ReflectiveOperationException {
        LoopScheduler x = new LoopScheduler();
        List<MatchResult> calls = CALL.matcher(text).results().toList();
        checks.equal("calls that tell an answer", calls.size(), ANY_CALL.matcher(text).results().count());
        for (MatchResult one : calls) {
            Object[] arguments = arguments(one.group(2));
            Object answer = method(one.group(1)).invoke(x, arguments);
            checks.same("README: " + one.group(), answer.toString(), one.group(3));
        }
    }

    private static Object[] arguments(String text) {
        return text.isEmpty() ? new Object[0]
                : Pattern.compile(", ").splitAsStream(text).map(Integer::valueOf).toArray();
    }

    private static Method method(String name) {
        for (Method method : LoopScheduler.class.getMethods()) {
            if (method.getName().equals(name)) {
                return method;
            }
        }
        throw new IllegalStateException("README calls " + name);
    }

    private static void namesEveryTest(String readme) {
        File[] files = new File("src/test/java").listFiles((folder, name) -> name.endsWith("Test.java"));
        for (File file : files) {
            String name = file.getName().replace(".java", "");
            checks.isTrue(name + " stands in README's table", readme.contains("| `" + name + "` |"));
        }
    }
}
