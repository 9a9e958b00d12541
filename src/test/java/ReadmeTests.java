import java.io.IOException;
import java.lang.reflect.Method;
import java.lang.reflect.Modifier;
import java.nio.file.Files;
import java.nio.file.Path;
import java.util.regex.Matcher;
import java.util.regex.Pattern;

/** README.md tells how to use each public method, and what its example says is true. */
public final class ReadmeTests {
    private static final Path README = Path.of("README.md");
    private static final Pattern EXAMPLE =
            Pattern.compile("(?m)^s\\.(\\w+)\\((.*?)\\);\\s*// (-?\\d+)\\b");
    private static final Pattern CALL = Pattern.compile("(?m)^s\\.");

    private static final Due DUE = new Due();

    public static void main(String[] args) throws IOException {
        String text = Files.readString(README);
        exampleIsTrue(text);
        eachMethodIsTold(text);
        testsAreTold(text);
        DUE.end();
    }

    private static void exampleIsTrue(String text) {
        Rows rows = new Rows(DUE, "README.md");
        Matcher example = EXAMPLE.matcher(text);
        while (example.find()) {
            String arguments = example.group(2).replace(",", " ");
            rows.make(example.group(1) + " " + arguments + " = " + example.group(3));
        }
        DUE.is("calls of the example with an answer", rows.calls(), CALL.matcher(text).results().count());
    }

    private static void eachMethodIsTold(String text) {
        for (Method method : SpringSpaces.class.getDeclaredMethods()) {
            if (Modifier.isPublic(method.getModifiers())) {
                String name = method.getName();
                DUE.holds("the example has " + name, text.contains("\ns." + name + "("));
                String[] parameters = toldParameters(text, name);
                DUE.is("parameters told of " + name, parameters.length, method.getParameterCount());
            }
        }
        DUE.holds("the constructor is told", text.contains("\n| `SpringSpaces()` |"));
    }

    private static String[] toldParameters(String text, String name) {
        Matcher row = Pattern.compile("(?m)^\\| `" + name + "\\((.*?)\\)` \\|").matcher(text);
        DUE.holds("a row tells of " + name, row.find());
        String inside = row.reset().find() ? row.group(1) : "";
        return inside.isEmpty() ? new String[0] : inside.split(", ");
    }

    private static void testsAreTold(String text) throws IOException {
        DUE.holds("how to run the tests", text.contains("\n    .ci/run\n"));
        try (var files = Files.list(Path.of("src/test/java"))) {
            for (Path file : files.toList()) {
                String name = file.getFileName().toString().replace(".java", "");
                DUE.holds("what it tests: " + name, text.contains("`" + name + "`"));
            }
        }
    }
}
