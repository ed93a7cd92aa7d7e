import java.io.IOException;
import java.lang.reflect.InvocationTargetException;
import java.lang.reflect.Method;
import java.nio.file.Files;
import java.nio.file.Path;
import java.util.ArrayList;
import java.util.List;
import java.util.Set;
import java.util.TreeSet;
import java.util.regex.Matcher;
import java.util.regex.Pattern;

/** What README.md shows is so: each call in its examples answers what its comment says, and its table names all calls. */
public final class ReadmeTest {
    private static final String NEW = "MessageCoder coder = new MessageCoder();";
    private static final Pattern CALL = Pattern.compile("coder\\.(\\w+)\\((.*)\\); *// (throws \\w+|\\w+).*");
    private static final Pattern PROGRAM = Pattern.compile("for \\(char sign : \"(.*)\"\\.toCharArray\\(\\)\\) \\{");
    private static final Set<String> OF_THE_LOOP = Set.of("coder.append(sign);", "}");
    private static final Pattern NAMED = Pattern.compile("`(\\w+)`");

    private static MessageCoder coder = new MessageCoder();

    public static void main(String[] args) throws IOException {
        Path root = Path.of(System.getProperty("project.root", "."));
        List<String> rows = Files.readAllLines(root.resolve("README.md"));
        checkExamples(rows);
        checkTable(rows);
        Check.end("ReadmeTest");
    }

    private static void checkExamples(List<String> rows) {
        boolean inside = false;
        for (String row : rows) {
            if (row.startsWith("```")) {
                inside = row.equals("```java");
            } else if (inside) {
                checkRow(row.trim());
            }
        }
    }

    private static void checkRow(String row) {
        Matcher call = CALL.matcher(row);
        Matcher program = PROGRAM.matcher(row);
        if (row.equals(NEW)) {
            coder = new MessageCoder();
        } else if (program.matches()) {
            for (char sign : program.group(1).toCharArray()) {
                coder.append(sign);
            }
        } else if (call.matches()) {
            Check.same(row, answer(call.group(1), call.group(2)), call.group(3));
        } else {
            Check.same(row + " is a row that this test can follow", OF_THE_LOOP.contains(row), true);
        }
    }

    private static String answer(String name, String arguments) {
        List<Object> values = new ArrayList<>();
        for (String argument : arguments.isEmpty() ? new String[0] : arguments.split(", ")) {
            if (argument.startsWith("'")) {
                values.add(argument.charAt(1));
            } else {
                values.add(Integer.valueOf(argument));
            }
        }
        for (Method method : MessageCoder.class.getMethods()) {
            if (method.getName().equals(name) && method.getParameterCount() == values.size()) {
                return outcome(method, values);
            }
        }
        return "no such method";
    }

    private static String outcome(Method method, List<Object> values) {
        try {
            return String.valueOf(method.invoke(coder, values.toArray()));
        } catch (InvocationTargetException thrown) {
            return "throws " + thrown.getCause().getClass().getSimpleName();
        } catch (IllegalAccessException hidden) {
            return "hidden";
        }
    }

    private static void checkTable(List<String> rows) {
        Set<String> named = new TreeSet<>();
        for (String row : rows) {
            Matcher matcher = NAMED.matcher(row.startsWith("| ") ? row.substring(row.lastIndexOf(" | ")) : "");
            while (matcher.find()) {
                Check.same(matcher.group(1) + " stands in the table once", named.add(matcher.group(1)), true);
            }
        }
        Set<String> calls = new TreeSet<>();
        for (Method method : MessageCoder.class.getMethods()) {
            if (method.getDeclaringClass() == MessageCoder.class) {
                calls.add(method.getName());
            }
        }
        Check.same("calls in the table", named, calls);
    }
}
