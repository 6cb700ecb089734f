import java.io.IOException;
import java.lang.reflect.Executable;
import java.lang.reflect.Field;
import java.lang.reflect.Modifier;
import java.nio.file.Files;
import java.nio.file.Path;
import java.util.ArrayList;
import java.util.List;
import java.util.Set;
import java.util.regex.MatchResult;
import java.util.regex.Pattern;

/** The rules of LANGUAGE.md that a look at the words of the source, or at the compiled classes, can tell. */
final class LanguageTest {
    private static final Path SOURCE = Path.of("src/main/java/LoopScheduler.java");
    private static final Set<String> IMPORTS = Set.of("java.util.Arrays", "java.util.ArrayList", "java.util.List",
            "java.util.Iterator", "java.util.NoSuchElementException");
    private static final Set<String> NUMBERS = Set.of("Integer", "Long", "Math");
    private static final Set<String> FUNCTIONS = Set.of("Arrays.copyOf", "Arrays.copyOfRange", "Arrays.fill",
            "System.arraycopy", "List.of");
    private static final Set<String> EXCEPTIONS = Set.of("IllegalStateException", "IllegalArgumentException",
            "IndexOutOfBoundsException", "ArithmeticException", "UnsupportedOperationException",
            "NoSuchElementException", "RuntimeException");
    private static final String[] FORBIDDEN = {
        "\\bpackage\\b", "\\bjava\\.", "->", "::", "\\bfinally\\b", "\\bsynchronized\\b", "\\bassert\\b",
        "\\bstatic\\s*\\{", "\\bhashCode\\b", "\\w+Exact\\b",
    };
    private static final int MOST_PARAMETERS = 7;
    private static final int MOST_LINES = 60;
    private static final int MOST_CLASSES = 12;
    private static final int MOST_FIELDS = 20;

    private static final Checks checks = new Checks("LanguageTest");

    public static void main(String[] args) throws IOException {
        String source = Files.readString(SOURCE);
        String code = withoutComments(source);
        String bare = code.replaceAll("\"[^\"]*\"", "\"\"").replaceAll("\\bimport\\s[^;]*;", "");
        signs(source);
        imports(code);
        forbiddenWords(bare);
        libraryNames(bare);
        joinedTexts(bare);
        thrown(code);
        methodLengths(source);
        classes();
        checks.finish();
    }

    private static String withoutComments(String source) {
        return source.replaceAll("(?s)/\\*.*?\\*/", "").replaceAll("//[^\n]*", "");
    }

    private static List<MatchResult> all(String pattern, String text) {
        return Pattern.compile(pattern).matcher(text).results().toList();
    }

    /** Rule 4: constants of texts have the signs 1 to 127; here the whole file has. */
    private static void signs(String source) {
        checks.isTrue("signs 1 to 127", source.chars().allMatch(sign -> sign >= 1 && sign <= 127));
    }

    /** Rule 4: no library but what it lists. */
    private static void imports(String code) {
        for (MatchResult one : all("\\bimport\\s+([^;]*);", code)) {
            checks.isTrue("import of " + one.group(1), IMPORTS.contains(one.group(1)));
        }
    }

    /** What rules 2, 4, 5 and 6 exclude, and a package line. */
    private static void forbiddenWords(String bare) {
        for (String pattern : FORBIDDEN) {
            checks.isTrue("nothing like " + pattern, all(pattern, bare).isEmpty());
        }
    }

    /** Rule 4: of Integer, Long and Math the functions alone, no constants; of the rest what it names. */
    private static void libraryNames(String bare) {
        for (MatchResult one : all("\\b([A-Z][a-z]\\w*)\\s*\\.\\s*(\\w+)\\s*(\\(?)", bare)) {
            String name = one.group(1) + "." + one.group(2);
            boolean isFunction = !one.group(3).isEmpty();
            boolean isListed = NUMBERS.contains(one.group(1)) || FUNCTIONS.contains(name);
            checks.isTrue(name + " is in the listed library", isFunction && isListed);
        }
    }

    /** Rule 10: texts are not joined by +. */
    private static void joinedTexts(String bare) {
        checks.isTrue("no + at a text", all("\"\"\\s*\\+|\\+=?\\s*\"\"", bare).isEmpty());
    }

    /** Rule 6: throw new E() or throw new E("a written text"). */
    private static void thrown(String code) {
        int throwing = all("\\bthrow\\b", code).size();
        List<MatchResult> plain = all("\\bthrow new (\\w+)\\((\"[^\"]*\")?\\);", code);
        checks.equal("throw statements of the plain form", plain.size(), throwing);
        for (MatchResult one : plain) {
            checks.isTrue("throw of " + one.group(1), EXCEPTIONS.contains(one.group(1)));
        }
    }

    /** Rule 11: a method begins at its header and ends at the brace that stands as far to the right. */
    private static void methodLengths(String source) {
        String header = "(?m)^((?:    ){1,2})(?! )(?!.*\\bclass\\b)[^\n=]*\\([^{;]*\\{\n(?s:.*?)^\\1\\}$";
        List<MatchResult> methods = all(header, source);
        checks.isTrue("methods are found", methods.size() > 29);
        for (MatchResult one : methods) {
            long lines = one.group().lines().count();
            checks.isTrue(one.group().lines().findFirst().orElse("").strip() + " has " + lines + " lines",
                    lines <= MOST_LINES);
        }
    }

    /** Rule 11, for the face and the classes inside it. */
    private static void classes() {
        Class<?>[] inside = LoopScheduler.class.getDeclaredClasses();
        checks.isTrue("classes", inside.length + 1 <= MOST_CLASSES);
        ofClass(LoopScheduler.class);
        for (Class<?> one : inside) {
            ofClass(one);
        }
    }

    private static void ofClass(Class<?> one) {
        List<Executable> all = new ArrayList<>(List.of(one.getDeclaredMethods()));
        all.addAll(List.of(one.getDeclaredConstructors()));
        for (Executable each : all) {
            checks.isTrue(each + " has few parameters", each.getParameterCount() <= MOST_PARAMETERS);
        }
        int fields = 0;
        for (Field field : one.getDeclaredFields()) {
            fields += Modifier.isStatic(field.getModifiers()) ? 0 : 1;
        }
        checks.isTrue(one + " has few fields", fields <= MOST_FIELDS);
    }
}
