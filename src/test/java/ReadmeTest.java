import java.io.IOException;
import java.lang.reflect.Method;
import java.lang.reflect.Modifier;
import java.nio.file.Files;
import java.nio.file.Path;
import java.util.ArrayList;
import java.util.List;
import java.util.regex.Matcher;
import java.util.regex.Pattern;

/** What README.md tells of the class is so: its examples, and that its table has every call. */
public final class ReadmeTest {
    private static final Pattern CALL = Pattern.compile("c\\.(\\w+)\\(([-0-9, ]*)\\);\\s*// (-?\\d+|true|false)(:.*)?");
    private static final String MAKING = "CostChecker c = new CostChecker();";

    private static final Dues DUES = new Dues();

    public static void main(String[] args) throws IOException, ReflectiveOperationException {
        List<String> lines = Files.readAllLines(Path.of("README.md"));
        runExamples(examplesOf(lines));
        findEveryCall(lines);
        DUES.close();
    }

    /** The lines of all blocks of Java, one behind the other. */
    private static List<String> examplesOf(List<String> lines) {
        List<String> found = new ArrayList<>();
        boolean inside = false;
        for (String line : lines) {
            if (line.startsWith("```")) {
                inside = line.equals("```java");
            } else if (inside) {
                found.add(line.strip());
            }
        }
        return found;
    }

    private static void runExamples(List<String> examples) throws ReflectiveOperationException {
        CostChecker checker = new CostChecker();
        DUES.due("the examples begin with a new object", examples.indexOf(MAKING), 0);
        for (String line : examples.subList(1, examples.size())) {
            Matcher call = CALL.matcher(line);
            boolean isCall = call.matches();
            DUES.due("'" + line + "' is a call with its answer", isCall, true);
            if (isCall) {
                String got = String.valueOf(answerOf(checker, call.group(1), call.group(2).split(", ")));
                DUES.due(line + " (here " + got + ")", got.equals(call.group(3)), true);
            }
        }
    }

    private static Object answerOf(CostChecker checker, String name, String[] numbers)
            throws ReflectiveOperationException {
        Class<?>[] types = new Class<?>[numbers.length];
        Object[] values = new Object[numbers.length];
        for (int i = 0; i < numbers.length; i++) {
            types[i] = int.class;
            values[i] = Integer.valueOf(numbers[i]);
        }
        return CostChecker.class.getMethod(name, types).invoke(checker, values);
    }

    private static void findEveryCall(List<String> lines) {
        for (Method method : CostChecker.class.getDeclaredMethods()) {
            if (Modifier.isPublic(method.getModifiers())) {
                String row = "| `" + method.getName() + "(";
                int rows = (int) lines.stream().filter(line -> line.startsWith(row)).count();
                DUES.due("rows in the table for " + method.getName(), rows, 1);
            }
        }
    }
}
