import java.io.IOException;
import java.lang.reflect.InvocationTargetException;
import java.lang.reflect.Method;
import java.lang.reflect.Modifier;
import java.nio.file.Files;
import java.nio.file.Path;
import java.util.ArrayList;
import java.util.List;
import java.util.regex.Matcher;
import java.util.regex.Pattern;

/** The examples that the document and README.md write down, read there and made call by call. */
public final class ExampleTest {
    private static final Path DOCUMENT = Path.of("../shared/DOC.md");
    private static final Path README = Path.of("README.md");
    private static final Pattern OF_DOCUMENT = Pattern.compile("(\\w+\\([^)]*\\)) = ([^;]+?)[;.]");
    private static final Pattern OF_README = Pattern.compile("town\\.(\\w+\\([^)]*\\)); +// ([^:]+?)(:.*)?");

    private ExampleTest() {
    }

    public static void main(String[] args) throws ReflectiveOperationException, IOException {
        ofDocument(Files.readAllLines(DOCUMENT));
        List<String> readme = Files.readAllLines(README);
        ofReadme(readme);
        readmeNamesAll(String.join("\n", readme));
        Check.finish("ExampleTest");
    }

    /** Each line of the document's list is a run of calls on a new object. */
    private static void ofDocument(List<String> lines) throws ReflectiveOperationException {
        int examples = 0;
        int calls = 0;
        for (String line : lines) {
            if (line.startsWith("- ") && line.contains(" = ")) {
                examples++;
                Wagonplay town = new Wagonplay();
                Matcher call = OF_DOCUMENT.matcher(line);
                while (call.find()) {
                    calls++;
                    due("example " + examples + " of the document", town, call.group(1), call.group(2));
                }
            }
        }
        Check.due("the document's examples", examples, 3);
        Check.due("calls in the document's examples", calls, 21);
    }

    /** README.md has one town for all of its calls, one call a line. */
    private static void ofReadme(List<String> lines) throws ReflectiveOperationException {
        Wagonplay town = new Wagonplay();
        int calls = 0;
        for (String line : lines) {
            if (line.startsWith("town.")) {
                calls++;
                Matcher call = OF_README.matcher(line);
                Check.due("README can be read: " + line, call.matches(), true);
                if (call.matches()) {
                    due("README", town, call.group(1), call.group(2));
                }
            }
        }
        Check.due("README has calls", calls > 20, true);
    }

    private static void readmeNamesAll(String readme) {
        for (Method method : Wagonplay.class.getDeclaredMethods()) {
            if (Modifier.isPublic(method.getModifiers())) {
                Check.due("README names " + method.getName(), readme.contains("`" + method.getName() + "`"), true);
            }
        }
    }

    private static void due(String where, Wagonplay town, String call, String answer)
            throws ReflectiveOperationException {
        Check.due(where + ": " + call, answer(town, call), answer);
    }

    private static String answer(Wagonplay town, String call) throws ReflectiveOperationException {
        int open = call.indexOf('(');
        String inside = call.substring(open + 1, call.length() - 1);
        Method method = methodOf(call.substring(0, open));
        try {
            return text(method.invoke(town, arguments(method, inside)));
        } catch (InvocationTargetException e) {
            return e.getCause().getClass().getSimpleName();
        }
    }

    private static Method methodOf(String name) throws ReflectiveOperationException {
        for (Method method : Wagonplay.class.getDeclaredMethods()) {
            if (method.getName().equals(name)) {
                return method;
            }
        }
        throw new NoSuchMethodException(name);
    }

    private static Object[] arguments(Method method, String inside) {
        List<Object> all = new ArrayList<>();
        String[] texts = inside.split(", ");
        Class<?>[] kinds = method.getParameterTypes();
        for (int i = 0; i < kinds.length; i++) {
            if (kinds[i] == char.class) {
                all.add(texts[i].charAt(1));
            } else if (kinds[i] == boolean.class) {
                all.add(Boolean.valueOf(texts[i]));
            } else {
                all.add(Integer.valueOf(texts[i]));
            }
        }
        return all.toArray();
    }

    private static String text(Object answer) {
        return answer instanceof Character ? "'" + answer + "'" : answer.toString();
    }
}
