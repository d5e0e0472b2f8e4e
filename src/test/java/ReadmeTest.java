import com.sun.source.util.JavacTask;
import java.io.IOException;
import java.lang.reflect.InvocationTargetException;
import java.lang.reflect.Method;
import java.lang.reflect.Modifier;
import java.net.URI;
import java.nio.file.Files;
import java.nio.file.Path;
import java.util.ArrayList;
import java.util.List;
import java.util.Set;
import java.util.TreeSet;
import java.util.regex.Matcher;
import java.util.regex.Pattern;
import javax.tools.DiagnosticCollector;
import javax.tools.JavaFileObject;
import javax.tools.SimpleJavaFileObject;
import javax.tools.ToolProvider;

/** README.md: its calls give the answers that stand behind them, and it names no test or file that isn't there. */
public final class ReadmeTest {
    private static final Checks checks = new Checks();
    private static final Pattern CALL = Pattern.compile("loom\\.(\\w+)\\(([^()]*)\\); *// (true|false|-?\\d+)(:.*)?");
    private static final Pattern NAME = Pattern.compile("`(\\w+Test)`|(\\w+Test)$|`((?:\\.\\./|\\.ci/|src/)[\\w./]+)`",
        Pattern.MULTILINE);

    public static void main(String[] args) throws IOException, ReflectiveOperationException {
        String readme = Files.readString(Path.of("README.md"));
        List<String> lines = block(readme, "java");
        makesCalls(lines);
        bytesAreThoseOfTheText(lines, block(readme, "text"));
        compiles(lines);
        namesWhatIsThere(readme);
        checks.due("README.md tells how to run all tests", block(readme, "sh").contains(".ci/run"), true);
        checks.finish();
    }

    /** The lines of all blocks of a kind. */
    private static List<String> block(String readme, String kind) {
        List<String> lines = new ArrayList<>();
        boolean within = false;
        for (String line : readme.split("\n")) {
            if (line.startsWith("```")) {
                within = !within && line.equals("```" + kind);
            } else if (within) {
                lines.add(line.strip());
            }
        }
        return lines;
    }

    private static void makesCalls(List<String> lines) throws ReflectiveOperationException {
        FiberLoom loom = null;
        Set<String> called = new TreeSet<>();
        for (String line : lines) {
            Matcher call = CALL.matcher(line);
            if (line.equals("FiberLoom loom = new FiberLoom();")) {
                loom = new FiberLoom();
            } else if (call.matches()) {
                called.add(call.group(1));
                answers(loom, line, call);
            } else {
                checks.due("README.md's \"" + line + "\" is empty or a comment", line.isEmpty() || line.startsWith("//"), true);
            }
        }
        for (Method method : FiberLoom.class.getDeclaredMethods()) {
            if (Modifier.isPublic(method.getModifiers())) {
                checks.due("README.md shows " + method.getName(), called.contains(method.getName()), true);
            }
        }
    }

    private static void answers(FiberLoom loom, String line, Matcher call)
        throws NoSuchMethodException, IllegalAccessException, InvocationTargetException {
        String[] texts = call.group(2).split(", *");
        Object[] numbers = new Object[texts.length];
        Class<?>[] types = new Class<?>[texts.length];
        for (int k = 0; k < texts.length; k++) {
            numbers[k] = Long.decode(texts[k]).intValue();
            types[k] = int.class;
        }
        Object got = FiberLoom.class.getMethod(call.group(1), types).invoke(loom, numbers);
        checks.due("README.md: " + line + " answers " + got + ", so this", got.toString().equals(call.group(3)), true);
    }

    /** The file that is shown in words is the one that is fed first. */
    private static void bytesAreThoseOfTheText(List<String> lines, List<String> text) {
        List<Integer> shown = new ArrayList<>();
        for (String line : text) {
            for (String one : line.split(" {2,}")[0].split(" ")) {
                shown.add(Integer.parseInt(one));
            }
        }
        List<Integer> fed = new ArrayList<>();
        for (String line : lines) {
            Matcher call = CALL.matcher(line);
            if (call.matches() && call.group(1).equals("feed") && fed.size() < shown.size()) {
                for (String number : call.group(2).split(", *")) {
                    for (int shift = 24; shift >= 0; shift -= 8) {
                        fed.add((int) (Long.decode(number) >>> shift & 255));
                    }
                }
            }
        }
        checks.due("README.md shows the bytes " + shown + " that it feeds: " + fed,
            shown.equals(fed.subList(0, Math.min(shown.size(), fed.size()))), true);
    }

    private static void compiles(List<String> lines) throws IOException {
        String source = "class Shown { static void shown() {\n" + String.join("\n", lines) + "\n} }";
        JavaFileObject file = new SimpleJavaFileObject(URI.create("string:///Shown.java"), JavaFileObject.Kind.SOURCE) {
            @Override
            public CharSequence getCharContent(boolean ignoreErrors) {
                return source;
            }
        };
        DiagnosticCollector<JavaFileObject> told = new DiagnosticCollector<>();
        JavacTask task = (JavacTask) ToolProvider.getSystemJavaCompiler().getTask(null, null, told,
            List.of("-proc:none", "-cp", System.getProperty("java.class.path")), null, List.of(file));
        task.analyze();
        checks.due("README.md's calls compile as they stand: " + told.getDiagnostics(), told.getDiagnostics().isEmpty(), true);
    }

    private static void namesWhatIsThere(String readme) {
        Matcher name = NAME.matcher(readme);
        while (name.find()) {
            String test = name.group(1) != null ? name.group(1) : name.group(2);
            Path path = test == null ? Path.of(name.group(3)) : Path.of("src/test/java", test + ".java");
            checks.due("README.md names " + path + ", which is there", Files.exists(path), true);
        }
    }
}
