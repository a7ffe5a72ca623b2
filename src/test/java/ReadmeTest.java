import java.io.IOException;
import java.lang.reflect.InvocationTargetException;
import java.lang.reflect.Method;
import java.lang.reflect.Modifier;
import java.nio.file.Files;
import java.nio.file.Path;
import java.util.ArrayList;
import java.util.Arrays;
import java.util.List;
import java.util.Map;
import java.util.Set;
import java.util.TreeMap;
import java.util.TreeSet;
import java.util.regex.Matcher;
import java.util.regex.Pattern;
import java.util.stream.Collectors;

/**
 * Runs the calls that README.md shows, on one object and in their order: each answers what README.md tells. Its table
 * of exceptions names those that the methods of the face declare.
 */
public final class ReadmeTest {
    private static final String MAKING = "CatEvenings cat = new CatEvenings();";
    /** cat.name(numbers);  // answer, or: throws Exception, and behind a colon what it means. */
    private static final Pattern CALL =
        Pattern.compile("cat\\.(\\w+)\\(((?:-?\\d+(?:, -?\\d+)*)?)\\); +// ([^:]+)(?:: .+)?");

    /** | `name`, `other` | `Exception` | when it is thrown | */
    private static final Pattern EXCEPTION_ROW = Pattern.compile("\\| (`\\w+`(?:, `\\w+`)*) \\| `(\\w+)` \\| .+ \\|");

    private static final Check CHECK = new Check();

    private final CatEvenings cat = new CatEvenings();
    private final Set<String> shown = new TreeSet<>();

    public static void main(String[] args) throws IOException {
        List<String> readme = Files.readAllLines(Path.of("README.md"));
        List<String> lines = javaLines(readme);
        CHECK.due("the first line", lines.get(0), MAKING);
        ReadmeTest test = new ReadmeTest();
        for (String line : lines.subList(1, lines.size())) {
            test.holds(line);
        }
        CHECK.due("the methods that README.md shows", test.shown, exceptionsOfTheFace().keySet());
        CHECK.due("the exceptions that README.md tells", exceptionsTold(readme), exceptionsOfTheFace());
        CHECK.end();
    }

    private static List<String> javaLines(List<String> lines) {
        List<String> found = new ArrayList<>();
        boolean inside = false;
        for (String line : lines) {
            if (line.startsWith("```")) {
                inside = line.equals("```java");
            } else if (inside) {
                found.add(line);
            }
        }
        return found;
    }

    private void holds(String line) {
        Matcher call = CALL.matcher(line);
        boolean isCall = call.matches();
        CHECK.due("is a call with its answer: " + line, isCall, true);
        if (isCall) {
            shown.add(call.group(1));
            CHECK.due(line, answer(call.group(1), numbers(call.group(2))), call.group(3));
        }
    }

    private static Object[] numbers(String text) {
        return text.isEmpty() ? new Object[0] : Arrays.stream(text.split(", ")).map(Integer::valueOf).toArray();
    }

    private String answer(String name, Object[] numbers) {
        Object answer = Check.answer(() -> invoke(name, numbers));
        return answer instanceof String ? "throws " + answer : answer.toString();
    }

    private Object invoke(String name, Object[] numbers) {
        Class<?>[] types = new Class<?>[numbers.length];
        Arrays.fill(types, int.class);
        try {
            return CatEvenings.class.getMethod(name, types).invoke(cat, numbers);
        } catch (InvocationTargetException e) {
            throw (RuntimeException) e.getCause();
        } catch (ReflectiveOperationException e) {
            return "no such method";
        }
    }

    /** Each method's exceptions by the method's name; none for a method that is in no row. */
    private static Map<String, Set<String>> exceptionsTold(List<String> readme) {
        Map<String, Set<String>> told = new TreeMap<>();
        exceptionsOfTheFace().keySet().forEach(name -> told.put(name, new TreeSet<>()));
        for (String line : readme) {
            Matcher row = EXCEPTION_ROW.matcher(line);
            if (row.matches()) {
                for (String name : row.group(1).replace("`", "").split(", ")) {
                    told.computeIfAbsent(name, unknown -> new TreeSet<>()).add(row.group(2));
                }
            }
        }
        return told;
    }

    private static Map<String, Set<String>> exceptionsOfTheFace() {
        Map<String, Set<String>> declared = new TreeMap<>();
        for (Method method : CatEvenings.class.getDeclaredMethods()) {
            if (Modifier.isPublic(method.getModifiers())) {
                declared.put(method.getName(), Arrays.stream(method.getExceptionTypes()).map(Class::getSimpleName)
                    .collect(Collectors.toCollection(TreeSet::new)));
            }
        }
        return declared;
    }
}
