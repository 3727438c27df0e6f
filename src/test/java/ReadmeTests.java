import java.io.ByteArrayOutputStream;
import java.io.File;
import java.io.PrintStream;
import java.lang.reflect.Method;
import java.lang.reflect.Modifier;
import java.net.URL;
import java.net.URLClassLoader;
import java.nio.charset.StandardCharsets;
import java.nio.file.Files;
import java.nio.file.Path;
import java.util.ArrayList;
import java.util.List;
import java.util.regex.Matcher;
import java.util.regex.Pattern;
import javax.tools.ToolProvider;

/** README.md is right: its examples answer what stands behind them, and it names each call and each test. */
final class ReadmeTests {
    private ReadmeTests() {
    }

    static void run() throws Exception {
        String readme = Files.readString(Path.of("README.md"));
        Matcher examples = Pattern.compile("(?s)```java\n(.*?)```").matcher(readme);
        int many = 0;
        while (examples.find()) {
            many++;
            Check.same("README.md, the example " + many, due(examples.group(1)), answered("Example" + many, examples.group(1)));
        }
        Check.same("examples in README.md", 2, many);
        for (Method method : Agenttree.class.getDeclaredMethods()) {
            boolean isNamed = readme.contains(" `" + method.getName() + "` ");
            Check.is("README.md names the call " + method.getName(), isNamed || !Modifier.isPublic(method.getModifiers()));
        }
        for (String file : new File("src/test/java").list()) {
            Check.is("README.md names " + file, readme.contains("`" + file.replace(".java", "") + "`"));
        }
    }

    /** What stands behind each line that prints. */
    private static String due(String example) {
        List<String> due = new ArrayList<>();
        for (String line : example.split("\n")) {
            if (line.startsWith("System.out.println(")) {
                due.add(line.substring(line.indexOf("// ") + 3));
            }
        }
        return String.join("\n", due);
    }

    private static String answered(String name, String example) throws Exception {
        Path work = Files.createTempDirectory("readme");
        Path file = work.resolve(name + ".java");
        Files.writeString(file, "public class " + name + " {\n public static void main(String[] args) {\n" + example + "}\n}\n");
        String classes = new File(Agenttree.class.getProtectionDomain().getCodeSource().getLocation().toURI()).getPath();
        int wrong = ToolProvider.getSystemJavaCompiler().run(null, null, null, "-nowarn", "-cp", classes, "-d", work.toString(), file.toString());
        if (wrong != 0) {
            return "it is not compiled";
        }
        PrintStream out = System.out;
        ByteArrayOutputStream printed = new ByteArrayOutputStream();
        try (URLClassLoader loader = new URLClassLoader(new URL[] {work.toUri().toURL()}, ReadmeTests.class.getClassLoader())) {
            Method main = loader.loadClass(name).getMethod("main", String[].class);
            System.setOut(new PrintStream(printed, true, StandardCharsets.ISO_8859_1));
            main.invoke(null, (Object) new String[0]);
        } finally {
            System.setOut(out);
            Files.deleteIfExists(file);
            Files.deleteIfExists(work.resolve(name + ".class"));
            Files.deleteIfExists(work);
        }
        return printed.toString(StandardCharsets.ISO_8859_1).trim().replace("\r", "");
    }
}
