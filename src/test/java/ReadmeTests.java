import java.io.IOException;
import java.lang.reflect.InvocationTargetException;
import java.lang.reflect.Method;
import java.lang.reflect.Modifier;
import java.nio.file.Files;
import java.nio.file.Path;
import java.util.List;
import java.util.TreeSet;
import java.util.regex.Matcher;
import java.util.regex.Pattern;

/** README.md's examples: each call answers what stands behind it; and its table: it has each call of the face. */
public final class ReadmeTests {
    private static final Path README = Path.of("README.md");
    private static final String NEW_OBJECT = "KindJudge judge = new KindJudge();";
    private static final Pattern CALL = Pattern.compile(
        "judge\\.(\\w+)\\(([^)]*)\\); +// (throws \\w+|true|-?\\d+)(:.*)?");
    private static final Pattern ROW = Pattern.compile("\\| `(\\w+)\\(([^)]*)\\)` \\| .*");

    private KindJudge judge;
    private int examples;

    private static Method called(String name, int arguments) {
        for (Method method : KindJudge.class.getDeclaredMethods()) {
            boolean open = Modifier.isPublic(method.getModifiers());
            if (open && method.getName().equals(name) && method.getParameterCount() == arguments) {
                return method;
            }
        }
        return null;
    }

    private static String[] parts(String arguments) {
        return arguments.isBlank() ? new String[0] : arguments.split(", *");
    }

    private static Object argument(String text, Class<?> type) {
        String plain = text.replace("_", "").replace("L", "");
        long number = Long.decode(plain);
        if (type == long.class) {
            return number;
        }
        return (int) number;
    }

    private String answer(Method method, String[] written) throws IllegalAccessException {
        Object[] arguments = new Object[written.length];
        for (int i = 0; i < written.length; i++) {
            arguments[i] = argument(written[i], method.getParameterTypes()[i]);
        }
        try {
            return String.valueOf(method.invoke(judge, arguments));
        } catch (InvocationTargetException e) {
            return "throws " + e.getCause().getClass().getSimpleName();
        }
    }

    private void example(String line) throws IllegalAccessException {
        if (line.equals(NEW_OBJECT)) {
            judge = new KindJudge();
            return;
        }
        Matcher call = CALL.matcher(line);
        boolean isCall = call.matches();
        Check.due(line + " is a call with its answer", isCall && judge != null, true);
        if (!isCall || judge == null) {
            return;
        }
        String[] arguments = parts(call.group(2));
        Method method = called(call.group(1), arguments.length);
        Check.due(line + " calls what there is", method != null, true);
        if (method != null) {
            String got = answer(method, arguments);
            Check.due(line + " answered " + got, got.equals(call.group(3)), true);
            examples++;
        }
    }

    private void examples(List<String> lines) throws IllegalAccessException {
        boolean inside = false;
        for (String line : lines) {
            if (line.startsWith("```")) {
                inside = line.equals("```java");
            } else if (inside) {
                example(line);
            }
        }
        Check.due("there are examples", examples > 0, true);
    }

    private static void table(List<String> lines) {
        TreeSet<String> told = new TreeSet<>();
        for (String line : lines) {
            Matcher row = ROW.matcher(line);
            if (row.matches() && called(row.group(1), parts(row.group(2)).length) != null) {
                told.add(row.group(1));
            }
        }
        for (Method method : KindJudge.class.getDeclaredMethods()) {
            if (Modifier.isPublic(method.getModifiers())) {
                Check.due("the table has " + method.getName(), told.contains(method.getName()), true);
            }
        }
    }

    public static void main(String[] args) throws IOException, IllegalAccessException {
        List<String> lines = Files.readAllLines(README);
        new ReadmeTests().examples(lines);
        table(lines);
        Check.end();
    }
}
