import java.lang.reflect.Constructor;
import java.lang.reflect.Field;
import java.lang.reflect.Method;
import java.lang.reflect.Modifier;
import java.nio.file.Files;
import java.nio.file.Path;
import java.util.Set;
import java.util.TreeSet;
import java.util.regex.Matcher;
import java.util.regex.Pattern;

/** The public face is the document's and no more; the source has none of the words that LANGUAGE.md rules out. */
public final class FaceTest {
    private static final Set<String> FACE = Set.of(
            "int poke(int,int,int,int,int)", "int start(int)", "int counter(int,int)", "int tag(int,int,boolean)",
            "int capability(int,int,int,boolean)", "int file(int,int)", "int fill(int,int,int)",
            "int post(int,int,int)", "int run(int)", "int cell(int,int)", "int slot(int,int)", "int label(int,int)",
            "int output(int,int)", "int outputTags(int,int)", "int content(int,int)", "int fileTags(int)",
            "boolean mayFlow(int,int)");

    public static void main(String[] args) throws Exception {
        face();
        classesInside();
        words();
        Checks.finish();
    }

    private static void face() {
        Class<?> c = FlowKernel.class;
        Checks.due("public final", c.getModifiers(), Modifier.PUBLIC | Modifier.FINAL);
        Checks.due("constructors", c.getDeclaredConstructors().length, 1);
        for (Constructor<?> made : c.getDeclaredConstructors()) {
            Checks.due("public constructor", made.getModifiers(), Modifier.PUBLIC);
            Checks.due("its parameters", made.getParameterCount(), 0);
        }
        Set<String> seen = new TreeSet<>();
        Set<String> publicNames = new TreeSet<>();
        Set<String> privateNames = new TreeSet<>();
        for (Method m : c.getDeclaredMethods()) {
            if (Modifier.isPrivate(m.getModifiers())) {
                privateNames.add(m.getName());
            } else {
                Checks.due("modifiers of " + m.getName(), m.getModifiers(), Modifier.PUBLIC);
                publicNames.add(m.getName());
                seen.add(written(m));
            }
        }
        Checks.due("the face " + seen, seen.equals(new TreeSet<>(FACE)), true);
        privateNames.retainAll(publicNames);
        Checks.due("private methods with a public name: " + privateNames, privateNames.size(), 0);
        for (Field f : c.getDeclaredFields()) {
            Checks.due("private field " + f.getName(), Modifier.isPrivate(f.getModifiers()), true);
            boolean changing = Modifier.isStatic(f.getModifiers()) && !Modifier.isFinal(f.getModifiers());
            Checks.due("changing static field " + f.getName(), changing, false);
        }
    }

    private static String written(Method m) {
        StringBuilder text = new StringBuilder(m.getReturnType().getName() + " " + m.getName() + "(");
        for (int i = 0; i < m.getParameterCount(); i++) {
            text.append(i == 0 ? "" : ",").append(m.getParameterTypes()[i].getName());
        }
        return text.append(")").toString();
    }

    private static void classesInside() {
        Class<?>[] inside = FlowKernel.class.getDeclaredClasses();
        Checks.due("at most twelve classes", inside.length < 12, true);
        for (Class<?> c : inside) {
            Checks.due("static " + c.getName(), Modifier.isStatic(c.getModifiers()), true);
            boolean open = Modifier.isPublic(c.getModifiers()) || Modifier.isProtected(c.getModifiers());
            Checks.due("open " + c.getName(), open, false);
            Checks.due("fields of " + c.getName(), c.getDeclaredFields().length <= 20, true);
        }
    }

    private static void words() throws Exception {
        Path root = Path.of(System.getProperty("flowkernel.root", "."));
        String source = Files.readString(root.resolve("src/main/java/FlowKernel.java"));
        String code = source.replaceAll("(?s)/\\*.*?\\*/", "").replaceAll("//[^\n]*", "");
        Pattern ruledOut = Pattern.compile("\\b(throw|throws|try|catch|finally|synchronized|assert|import|package|"
                + "volatile|native|System|Object|hashCode|toString|equals)\\b|->|::|@");
        Matcher found = ruledOut.matcher(code);
        while (found.find()) {
            Checks.due("in the source: " + found.group(), 1, 0);
        }
        for (char c : source.toCharArray()) {
            if (c > 126) {
                Checks.due("a character of the source", c, ' ');
            }
        }
    }
}
