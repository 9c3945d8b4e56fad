import java.io.File;
import java.lang.reflect.Method;
import java.lang.reflect.Modifier;
import java.nio.file.Files;
import java.nio.file.Path;
import java.util.ArrayList;
import java.util.List;
import java.util.regex.Matcher;
import java.util.regex.Pattern;

/** What README.md says: its examples are made call by call, its tables have each call, and its list each test. */
public final class ReadmeTest {
    private static final Path ROOT = Path.of(System.getProperty("flowkernel.root", "."));
    private static final Pattern EXAMPLE = Pattern.compile("(?s)```java\n(.*?)```");
    private static final Pattern MADE = Pattern.compile("FlowKernel k = new FlowKernel\\(\\);");
    private static final Pattern CALL = Pattern.compile("k\\.(\\w+)\\((.*?)\\); +// (true|false|-?\\d+)(:.*)?");

    public static void main(String[] args) throws Exception {
        String readme = Files.readString(ROOT.resolve("README.md"));
        examples(readme);
        eachCall(readme);
        eachTest(readme);
        Checks.finish();
    }

    private static void examples(String readme) throws Exception {
        Matcher example = EXAMPLE.matcher(readme);
        int n = 0;
        while (example.find()) {
            n++;
            FlowKernel k = null;
            for (String line : example.group(1).split("\n")) {
                if (MADE.matcher(line).matches()) {
                    k = new FlowKernel();
                } else {
                    callOfALine(k, line);
                }
            }
        }
        Checks.due("examples", n, 2);
    }

    private static void callOfALine(FlowKernel k, String line) throws Exception {
        Matcher call = CALL.matcher(line);
        boolean isCall = k != null && call.matches();
        Checks.due("a call with its answer: " + line, isCall, true);
        if (isCall) {
            List<Object> values = new ArrayList<>();
            for (String text : call.group(2).split(", *")) {
                values.add(value(text));
            }
            String got = String.valueOf(face(call.group(1)).invoke(k, values.toArray()));
            Checks.due(line + " -- answered " + got, got.equals(call.group(3)), true);
        }
    }

    /** A boolean, or a sum of products. */
    private static Object value(String text) {
        if (text.equals("true") || text.equals("false")) {
            return text.equals("true");
        }
        int sum = 0;
        for (String part : text.split("\\+")) {
            int product = 1;
            for (String factor : part.split("\\*")) {
                product *= Integer.parseInt(factor.trim());
            }
            sum += product;
        }
        return sum;
    }

    private static Method face(String name) {
        for (Method m : FlowKernel.class.getDeclaredMethods()) {
            if (Modifier.isPublic(m.getModifiers()) && m.getName().equals(name)) {
                return m;
            }
        }
        throw new IllegalArgumentException(name);
    }

    private static void eachCall(String readme) {
        for (Method m : FlowKernel.class.getDeclaredMethods()) {
            if (Modifier.isPublic(m.getModifiers())) {
                Matcher row = Pattern.compile("(?m)^\\| `" + m.getName() + "\\((.*?)\\)` \\|").matcher(readme);
                Checks.due("a row of " + m.getName(), row.find(), true);
                Checks.due("its parameters", row.group(1).split(", ").length, m.getParameterCount());
                Checks.due("one row of " + m.getName(), row.find(), false);
            }
        }
    }

    private static void eachTest(String readme) {
        File[] files = ROOT.resolve("src/test/java").toFile().listFiles();
        Checks.due("there are tests", files != null && files.length > 0, true);
        for (File file : files) {
            String name = file.getName().replace(".java", "");
            boolean listed = readme.contains("`" + name + "`") || readme.contains("`" + name + ".java`");
            Checks.due("README.md names " + name, listed, true);
        }
    }
}
