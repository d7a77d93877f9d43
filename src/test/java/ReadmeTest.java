import java.io.ByteArrayOutputStream;
import java.lang.reflect.Method;
import java.lang.reflect.Modifier;
import java.net.URL;
import java.net.URLClassLoader;
import java.nio.file.Files;
import java.nio.file.Path;
import java.util.ArrayList;
import java.util.List;
import java.util.Set;
import java.util.TreeSet;
import java.util.regex.Matcher;
import java.util.regex.Pattern;
import java.util.stream.Stream;
import javax.tools.ToolProvider;

/** What README.md says is what the class does: its examples are run, its tables compared with what there is. */
public final class ReadmeTest {
    private static final Pattern BLOCK = Pattern.compile("(?ms)^```java\n(.*?)^```$");
    private static final Pattern ANSWER = Pattern.compile("^(host\\..*\\)); *// answers (-?\\w+).*$");
    private static final Pattern CALL_ROW = Pattern.compile("(?m)^\\| `(\\w+)\\((.*?)\\)` \\| .* \\| (\\S+) \\|$");
    private static final Pattern TEST_NAME = Pattern.compile("`(\\w+Test)`");
    private static final Pattern CLASS_NAME = Pattern.compile("`([A-Z]\\w+)`");

    public static void main(String[] args) throws Exception {
        String text = Files.readString(Path.of("README.md"));
        examples(text);
        calls(text);
        Check.due("README's tests", named(TEST_NAME, text).equals(testsThatAre()), true);
        String built = text.substring(text.indexOf("## How it is built"), text.indexOf("## How to run the tests"));
        Check.due("README's classes", named(CLASS_NAME, built).equals(classesThatAre()), true);
        Check.end();
    }

    /** Each example becomes a method of one class that answers what its calls answered. */
    private static void examples(String text) throws Exception {
        List<String> calls = new ArrayList<>();
        List<String> due = new ArrayList<>();
        StringBuilder code = new StringBuilder("public final class Examples {\n");
        int blocks = 0;
        for (Matcher block = BLOCK.matcher(text); block.find(); blocks++) {
            code.append("public static void example").append(blocks).append("(java.util.List<String> got) {\n");
            for (String line : block.group(1).split("\n")) {
                Matcher answer = ANSWER.matcher(line);
                if (answer.matches()) {
                    calls.add(answer.group(1));
                    due.add(answer.group(2));
                    code.append("got.add(String.valueOf(").append(answer.group(1)).append("));\n");
                } else {
                    code.append(line).append('\n');
                }
            }
            code.append("}\n");
        }
        List<String> got = answersOf(code.append("}\n").toString(), blocks);
        Check.due("README's examples", blocks, 3);
        Check.due("README's answers", got.size(), due.size());
        for (int n = 0; n < Math.min(got.size(), due.size()); n++) {
            String what = "README: " + calls.get(n) + ", " + got.get(n) + " for " + due.get(n);
            Check.due(what, got.get(n).equals(due.get(n)), true);
        }
    }

    private static List<String> answersOf(String code, int blocks) throws Exception {
        List<String> got = new ArrayList<>();
        Path home = Files.createTempDirectory("readme");
        Path file = Files.writeString(home.resolve("Examples.java"), code);
        ByteArrayOutputStream said = new ByteArrayOutputStream();
        int result = ToolProvider.getSystemJavaCompiler().run(null, said, said,
            "-cp", System.getProperty("java.class.path"), "-d", home.toString(), file.toString());
        Check.due("README's examples compile " + said, result, 0);
        if (result == 0) {
            try (URLClassLoader loader = new URLClassLoader(new URL[] {home.toUri().toURL()})) {
                Class<?> examples = loader.loadClass("Examples");
                for (int n = 0; n < blocks; n++) {
                    examples.getMethod("example" + n, List.class).invoke(null, got);
                }
            }
        }
        Files.deleteIfExists(home.resolve("Examples.class"));
        Files.delete(file);
        Files.delete(home);
        return got;
    }

    /** Every public method has its row, and is refused as the row says: -1 is no guest and no number of steps. */
    private static void calls(String text) throws Exception {
        Set<String> rows = new TreeSet<>();
        for (Matcher row = CALL_ROW.matcher(text); row.find();) {
            rows.add(row.group(1));
            Method method = publicMethod(row.group(1));
            int parameters = row.group(2).isEmpty() ? 0 : row.group(2).split(",").length;
            Check.due("README's parameters of " + row.group(1), parameters, method.getParameterCount());
            if (!row.group(3).equals("never")) {
                String answer = String.valueOf(method.invoke(new TwinHost(4), refused(method)));
                Check.due("README: refused " + row.group(1) + " " + answer, answer.equals(row.group(3)), true);
            }
        }
        Set<String> methods = new TreeSet<>();
        for (Method method : publicMethods()) {
            methods.add(method.getName());
        }
        Check.due("README's calls " + rows, rows.equals(methods), true);
    }

    private static Object[] refused(Method method) {
        return Stream.of(method.getParameterTypes()).map(t -> t == boolean.class ? (Object) true : (Object) (-1)).toArray();
    }

    private static List<Method> publicMethods() {
        return Stream.of(TwinHost.class.getDeclaredMethods()).filter(m -> Modifier.isPublic(m.getModifiers())).toList();
    }

    private static Method publicMethod(String name) {
        return publicMethods().stream().filter(m -> m.getName().equals(name)).findFirst().orElseThrow();
    }

    private static Set<String> named(Pattern pattern, String text) {
        Set<String> names = new TreeSet<>();
        for (Matcher name = pattern.matcher(text); name.find();) {
            names.add(name.group(1));
        }
        return names;
    }

    private static Set<String> testsThatAre() throws Exception {
        Set<String> names = new TreeSet<>();
        try (Stream<Path> files = Files.list(Path.of("src/test/java"))) {
            files.map(f -> f.getFileName().toString()).filter(n -> n.endsWith("Test.java"))
                .forEach(n -> names.add(n.substring(0, n.length() - ".java".length())));
        }
        return names;
    }

    private static Set<String> classesThatAre() {
        Set<String> names = new TreeSet<>();
        for (Class<?> one : TwinHost.class.getDeclaredClasses()) {
            names.add(one.getSimpleName());
        }
        return names;
    }
}
