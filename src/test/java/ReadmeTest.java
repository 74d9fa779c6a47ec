import java.io.IOException;
import java.lang.reflect.Method;
import java.lang.reflect.Modifier;
import java.nio.file.Files;
import java.nio.file.Path;
import java.util.ArrayList;
import java.util.List;
import java.util.Set;
import java.util.TreeSet;
import java.util.regex.Matcher;
import java.util.regex.Pattern;

/** README.md is true: its examples answer as it says, and its tables tell the whole face. */
public final class ReadmeTest {
    private static final String NEW_OBJECT = "BranchPredictor x = new BranchPredictor();";
    private static final Pattern CALL = Pattern.compile("x\\.(\\w+\\(.*\\)); +// ([^:]+)(: .*)?");
    private static final Pattern ROW = Pattern.compile("\\| `(\\w+ \\w+)\\((.*?)\\)` \\|[^|]*\\|([^|]*)\\|");
    private static final Pattern EXCEPTION = Pattern.compile("`(\\w+Exception)`: \\w+");

    public static void main(String[] args) throws IOException {
        List<String> lines = Files.readAllLines(Path.of("README.md"));
        examples(lines);
        tables(lines);
        Script.end(ReadmeTest.class);
    }

    private static void examples(List<String> lines) {
        BranchPredictor x = null;
        boolean isCode = false;
        int calls = 0;
        for (String line : lines) {
            if (line.startsWith("```")) {
                isCode = line.equals("```java");
            } else if (isCode && line.equals(NEW_OBJECT)) {
                x = new BranchPredictor();
            } else if (isCode) {
                Matcher call = CALL.matcher(line);
                boolean isCall = x != null && call.matches();
                Script.due("README.md: a call with its answer: " + line, isCall, true);
                if (isCall) {
                    Script.go(x, "README.md", call.group(1) + " = " + call.group(2));
                    calls++;
                }
            }
        }
        Script.due("README.md has examples", calls > 0, true);
    }

    private static void tables(List<String> lines) {
        List<String> told = new ArrayList<>();
        for (String line : lines) {
            Matcher row = ROW.matcher(line);
            if (row.matches()) {
                told.add(row.group(1) + types(row.group(2)) + exceptions(row.group(3)));
            }
        }
        Set<String> face = new TreeSet<>();
        for (Method method : BranchPredictor.class.getDeclaredMethods()) {
            if (Modifier.isPublic(method.getModifiers())) {
                face.add(told(method));
            }
        }
        Script.due("the calls in README.md's tables", new TreeSet<>(told), face);
        Script.due("README.md tells each call once", told.size(), face.size());
    }

    private static String types(String parameters) {
        StringBuilder text = new StringBuilder();
        for (String parameter : parameters.split(", ")) {
            if (!parameter.isEmpty()) {
                text.append(' ').append(parameter.split(" ")[0]);
            }
        }
        return text.toString();
    }

    private static String exceptions(String cell) {
        StringBuilder text = new StringBuilder();
        Matcher exception = EXCEPTION.matcher(cell);
        while (exception.find()) {
            text.append(" throws ").append(exception.group(1));
        }
        return text.toString();
    }

    private static String told(Method method) {
        StringBuilder text = new StringBuilder(method.getReturnType() + " " + method.getName());
        for (Class<?> type : method.getParameterTypes()) {
            text.append(' ').append(type);
        }
        for (Class<?> type : method.getExceptionTypes()) {
            text.append(" throws ").append(type.getSimpleName());
        }
        return text.toString();
    }
}
