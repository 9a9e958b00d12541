import java.io.IOException;
import java.lang.reflect.Constructor;
import java.lang.reflect.Field;
import java.lang.reflect.Method;
import java.lang.reflect.Modifier;
import java.nio.file.Files;
import java.nio.file.Path;
import java.util.Arrays;
import java.util.Set;
import java.util.TreeSet;
import java.util.regex.Pattern;

/** The face of the class is the document's, and the file keeps to rules that can be looked up. */
public final class FaceTests {
    private static final Path SOURCE = Path.of("src/main/java/SpringSpaces.java");
    private static final Set<String> FACE = new TreeSet<>(Arrays.asList(
            "int table(int, int)", "int column(int)", "int clear()", "long spring(int)",
            "int least(int, int)", "int item(int, int, int, int)", "int remove(int, int)",
            "int rod(int, int, int)", "int drop(int)", "int bar(int, boolean)", "int run(int)",
            "int line(int, int, int)", "int over()", "long force(int)", "long width(int, int)",
            "int settled(int)", "int place(int)", "int level(int)", "int lines(int)",
            "int begin(int)", "long cost()", "int natural(int, int)"));
    private static final String[] RULED_OUT = {
        "throw", "try", "catch", "synchronized", "assert", "import", "package", "->", "::",
        "protected", "volatile", "native", "System", "Object", "Exact"};

    private static final Due DUE = new Due();

    public static void main(String[] args) throws IOException {
        classIsFinal();
        methodsAreTheFace();
        nothingElseIsVisible();
        namesAreNotSharedWithTheFace();
        wordsAreNotRuledOut();
        DUE.end();
    }

    private static void classIsFinal() {
        int modifiers = SpringSpaces.class.getModifiers();
        DUE.holds("public final class", Modifier.isPublic(modifiers) && Modifier.isFinal(modifiers));
    }

    private static String told(Method method) {
        StringBuilder text = new StringBuilder();
        text.append(method.getReturnType()).append(' ').append(method.getName()).append('(');
        for (Class<?> type : method.getParameterTypes()) {
            text.append(text.charAt(text.length() - 1) == '(' ? "" : ", ").append(type);
        }
        return text.append(')').toString();
    }

    private static void methodsAreTheFace() {
        Set<String> found = new TreeSet<>();
        for (Method method : SpringSpaces.class.getDeclaredMethods()) {
            if (!Modifier.isPrivate(method.getModifiers())) {
                DUE.holds(method + " is public", Modifier.isPublic(method.getModifiers()));
                DUE.holds(method + " is of the object", !Modifier.isStatic(method.getModifiers()));
                found.add(told(method));
            }
        }
        DUE.holds("the face is the document's: " + found, found.equals(FACE));
    }

    private static void nothingElseIsVisible() {
        Constructor<?>[] constructors = SpringSpaces.class.getDeclaredConstructors();
        DUE.is("constructors", constructors.length, 1);
        DUE.is("its parameters", constructors[0].getParameterCount(), 0);
        DUE.holds("it is public", Modifier.isPublic(constructors[0].getModifiers()));
        for (Field field : SpringSpaces.class.getDeclaredFields()) {
            DUE.holds(field + " is private", Modifier.isPrivate(field.getModifiers()));
            boolean changing = Modifier.isStatic(field.getModifiers()) && !Modifier.isFinal(field.getModifiers());
            DUE.holds(field + " is no static state", !changing);
        }
        for (Class<?> inner : SpringSpaces.class.getDeclaredClasses()) {
            DUE.holds(inner + " is static", Modifier.isStatic(inner.getModifiers()));
            DUE.holds(inner + " is not public", !Modifier.isPublic(inner.getModifiers()));
        }
        DUE.holds("at most twelve classes", SpringSpaces.class.getDeclaredClasses().length < 12);
    }

    private static void namesAreNotSharedWithTheFace() {
        Set<String> names = new TreeSet<>();
        for (Method method : SpringSpaces.class.getMethods()) {
            if (method.getDeclaringClass() == SpringSpaces.class) {
                names.add(method.getName());
            }
        }
        for (Method method : SpringSpaces.class.getDeclaredMethods()) {
            boolean hidden = Modifier.isPrivate(method.getModifiers());
            DUE.holds(method + " has a name of its own", !hidden || !names.contains(method.getName()));
            DUE.holds(method + " takes at most seven", method.getParameterCount() <= 7);
        }
        for (Class<?> inner : SpringSpaces.class.getDeclaredClasses()) {
            for (Method method : inner.getDeclaredMethods()) {
                DUE.holds(method + " has a name of its own", !names.contains(method.getName()));
                DUE.holds(method + " takes at most seven", method.getParameterCount() <= 7);
            }
        }
    }

    private static void wordsAreNotRuledOut() throws IOException {
        String code = Files.readString(SOURCE)
                .replaceAll("(?s)/\\*.*?\\*/", " ").replaceAll("//[^\n]*", " ");
        for (String word : RULED_OUT) {
            String edge = Character.isLetter(word.charAt(0)) ? "\\b" : "";
            Pattern pattern = Pattern.compile(edge + Pattern.quote(word) + edge);
            DUE.holds("without " + word, !pattern.matcher(code).find());
        }
    }
}
