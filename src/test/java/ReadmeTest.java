import java.io.ByteArrayOutputStream;
import java.io.IOException;
import java.io.PrintStream;
import java.lang.reflect.Method;
import java.lang.reflect.Modifier;
import java.net.URI;
import java.net.URL;
import java.net.URLClassLoader;
import java.nio.charset.StandardCharsets;
import java.nio.file.Files;
import java.nio.file.Path;
import java.util.List;
import java.util.regex.Matcher;
import java.util.regex.Pattern;
import javax.tools.JavaCompiler;
import javax.tools.JavaFileObject;
import javax.tools.SimpleJavaFileObject;
import javax.tools.ToolProvider;

/** README.md's programs compile and print what stands behind them; it names every call. */
public final class ReadmeTest {
    private static final Check CHECK = new Check("readme");
    private static final Pattern PROGRAM =
            Pattern.compile("```java\n(.*?)```\\s*```text\n(.*?)```", Pattern.DOTALL);
    private static final Pattern NAME = Pattern.compile("public final class (\\w+)");

    public static void main(String[] args) throws IOException {
        String text = Files.readString(Path.of("README.md"));
        Matcher programs = PROGRAM.matcher(text);
        int found = 0;
        while (programs.find()) {
            found++;
            String code = programs.group(1);
            Matcher name = NAME.matcher(code);
            CHECK.compare("program " + found + " has a name", true, name.find());
            CHECK.compare(name.group(1), programs.group(2), printed(name.group(1), code));
        }
        CHECK.compare("programs with what they print", 2, found);
        CHECK.compare("programs in all", 2, text.split("```java\n", -1).length - 1);
        for (Method method : DimensionChecker.class.getDeclaredMethods()) {
            if (Modifier.isPublic(method.getModifiers())) {
                CHECK.compare(call(method) + " is named", true, names(text, method));
            }
        }
        CHECK.end();
    }

    private static String call(Method method) {
        return method.getName() + " with " + method.getParameterCount() + " parameters";
    }

    /** Somewhere the call stands as code, with words for all its parameters. */
    private static boolean names(String text, Method method) {
        int parameters = method.getParameterCount();
        String words = parameters == 0 ? "" : "\\w+(, \\w+){" + (parameters - 1) + "}";
        String call = "`" + method.getName() + "\\(" + words + "\\)`";
        return Pattern.compile(call).matcher(text).find();
    }

    private static String printed(String name, String code) throws IOException {
        Path classes = Files.createTempDirectory("readme");
        Path compiled = classes.resolve(name + ".class");
        try {
            if (!compile(name, code, classes)) {
                return "does not compile";
            }
            return run(name, classes);
        } finally {
            Files.deleteIfExists(compiled);
            Files.delete(classes);
        }
    }

    private static boolean compile(String name, String code, Path classes) {
        JavaCompiler compiler = ToolProvider.getSystemJavaCompiler();
        JavaFileObject source = new SimpleJavaFileObject(URI.create("string:///" + name + ".java"),
                JavaFileObject.Kind.SOURCE) {
            @Override
            public CharSequence getCharContent(boolean ignoreErrors) {
                return code;
            }
        };
        List<String> options = List.of("--release", "17", "-d", classes.toString(),
                "-cp", System.getProperty("java.class.path"));
        return compiler.getTask(null, null, null, options, null, List.of(source)).call();
    }

    private static String run(String name, Path classes) throws IOException {
        PrintStream before = System.out;
        ByteArrayOutputStream bytes = new ByteArrayOutputStream();
        URL[] places = {classes.toUri().toURL()};
        try (URLClassLoader loader = new URLClassLoader(places)) {
            System.setOut(new PrintStream(bytes, true, StandardCharsets.UTF_8));
            Method main = loader.loadClass(name).getMethod("main", String[].class);
            main.invoke(null, (Object) new String[0]);
        } catch (ReflectiveOperationException e) {
            return "fails: " + e + ", " + e.getCause();
        } finally {
            System.setOut(before);
        }
        return bytes.toString(StandardCharsets.UTF_8).replace(System.lineSeparator(), "\n");
    }
}
