import java.io.IOException;
import java.lang.reflect.Field;
import java.lang.reflect.InvocationTargetException;
import java.lang.reflect.Method;
import java.nio.charset.StandardCharsets;
import java.nio.file.Files;
import java.nio.file.Path;
import java.util.ArrayList;
import java.util.HashMap;
import java.util.List;
import java.util.Map;
import java.util.TreeSet;
import java.util.regex.Matcher;
import java.util.regex.Pattern;

/** README.md against the class: each line of its Java examples, and each call and constant of its tables. */
public final class ReadmeTest {
    private static final Pattern BEGINNING = Pattern.compile("ScripHollow town = new ScripHollow\\(\\);");
    private static final Pattern CALL =
            Pattern.compile("(?:int (\\w+) = )?town\\.(\\w+)\\((.*?)\\); +// (throws \\w+|-?\\w+)(?:: .*)?");
    private static final Pattern ROW =
            Pattern.compile("\\| `(int|boolean|void) (\\w+)\\((.*?)\\)` \\| .+? \\|(.*?)\\|(.*?)\\|");
    private static final Pattern CONSTANT = Pattern.compile("`([A-Z]+) = (-?\\d+)`");
    private static final Due due = new Due();

    private final Map<String, Integer> variables = new HashMap<>();
    private ScripHollow town;

    public static void main(String[] args) throws IOException, ReflectiveOperationException {
        List<String> lines = Files.readAllLines(Path.of("README.md"), StandardCharsets.UTF_8);
        due.promise(1, "README.md");
        examples(lines);
        calls(lines);
        constants(String.join("\n", lines));
        due.end();
    }

    private static void examples(List<String> lines) throws ReflectiveOperationException {
        ReadmeTest reader = null;
        TreeSet<String> called = new TreeSet<>();
        for (String line : lines) {
            if (line.equals("```java")) {
                reader = new ReadmeTest();
            } else if (line.equals("```")) {
                reader = null;
            } else if (reader != null) {
                called.add(reader.read(line));
            }
        }
        due.is("examples, so many calls", called.size() > 25, true);
    }

    /** One line of an example, which must be one that can be tried; its call. */
    private String read(String line) throws ReflectiveOperationException {
        Matcher call = CALL.matcher(line);
        if (BEGINNING.matcher(line).matches()) {
            town = new ScripHollow();
            return "new";
        }
        if (town == null || !call.matches()) {
            due.is("a line that cannot be tried, " + line + ",", true, false);
            return "none";
        }
        String got = answer(call.group(2), call.group(3));
        due.is("\"" + line + "\" answers " + got + ": the same", got.equals(call.group(4)), true);
        if (call.group(1) != null) {
            variables.put(call.group(1), Integer.valueOf(got));
        }
        return call.group(2);
    }

    private String answer(String name, String arguments) throws ReflectiveOperationException {
        Method method = methodOf(name);
        if (method == null) {
            return "no such call";
        }
        List<Object> values = new ArrayList<>();
        for (String argument : split(arguments)) {
            values.add(valueOf(argument));
        }
        try {
            return String.valueOf(method.invoke(town, values.toArray()));
        } catch (InvocationTargetException e) {
            return "throws " + e.getCause().getClass().getSimpleName();
        }
    }

    private Object valueOf(String argument) throws ReflectiveOperationException {
        if (argument.equals("true") || argument.equals("false")) {
            return Boolean.valueOf(argument);
        }
        if (argument.startsWith("ScripHollow.")) {
            return ScripHollow.class.getField(argument.substring("ScripHollow.".length())).getInt(null);
        }
        return variables.containsKey(argument) ? variables.get(argument) : Integer.valueOf(argument);
    }

    private static List<String> split(String arguments) {
        return arguments.isEmpty() ? List.of() : List.of(arguments.split(", "));
    }

    /** Each method has one row, with its answer, the number of its arguments, and its exceptions in their order. */
    private static void calls(List<String> lines) {
        List<String> told = new ArrayList<>();
        for (String line : lines) {
            Matcher row = ROW.matcher(line);
            if (row.matches()) {
                told.add(row.group(2));
                compare(row, methodOf(row.group(2)));
            } else if (line.matches("\\| `\\w+ \\w+\\(.*")) {
                due.is("a row that cannot be read, " + line + ",", true, false);
            }
        }
        TreeSet<String> open = new TreeSet<>();
        for (Method method : ScripHollow.class.getMethods()) {
            if (method.getDeclaringClass() == ScripHollow.class) {
                open.add(method.getName());
            }
        }
        due.is("rows of calls", told.size(), open.size());
        due.is("the rows " + told + " are the calls", new TreeSet<>(told).equals(open), true);
    }

    private static void compare(Matcher row, Method method) {
        String name = "the row of " + row.group(2);
        due.is(name + " is of a call", method != null, true);
        if (method == null) {
            return;
        }
        boolean isVoid = method.getReturnType() == void.class;
        due.is(name + ", the type", row.group(1).equals(method.getReturnType().getName()), true);
        due.is(name + ", arguments", split(row.group(3)).size(), method.getParameterCount());
        due.is(name + ", no answer", row.group(4).trim().isEmpty(), isVoid);
        due.is(name + ", throws" + row.group(5), thrownInRow(row.group(5)).equals(thrownBy(method)), true);
    }

    private static List<String> thrownInRow(String cell) {
        List<String> names = new ArrayList<>();
        for (String part : cell.trim().split("; ")) {
            if (!part.isEmpty()) {
                names.add(part.split(":")[0]);
            }
        }
        return names;
    }

    private static List<String> thrownBy(Method method) {
        List<String> names = new ArrayList<>();
        for (Class<?> thrown : method.getExceptionTypes()) {
            names.add(thrown == Due.INDEX ? "Index" : thrown == Due.ARGUMENT ? "Argument" : "State");
        }
        return names;
    }

    private static Method methodOf(String name) {
        for (Method method : ScripHollow.class.getMethods()) {
            if (method.getName().equals(name)) {
                return method;
            }
        }
        return null;
    }

    private static void constants(String text) throws IllegalAccessException {
        Map<String, Integer> told = new HashMap<>();
        Matcher constant = CONSTANT.matcher(text);
        while (constant.find()) {
            told.put(constant.group(1), Integer.valueOf(constant.group(2)));
        }
        Map<String, Integer> open = new HashMap<>();
        for (Field field : ScripHollow.class.getFields()) {
            open.put(field.getName(), field.getInt(null));
        }
        due.is("the constants " + told + " are " + open, told.equals(open), true);
    }
}
