import java.io.IOException;
import java.lang.reflect.Method;
import java.lang.reflect.Modifier;
import java.net.URI;
import java.net.URL;
import java.net.URLClassLoader;
import java.nio.file.Files;
import java.nio.file.Path;
import java.util.List;
import java.util.regex.Matcher;
import java.util.regex.Pattern;
import javax.tools.JavaCompiler;
import javax.tools.JavaFileObject;
import javax.tools.SimpleJavaFileObject;
import javax.tools.StandardJavaFileManager;
import javax.tools.ToolProvider;

/** README.md names each call of the class, and its examples answer what their comments tell ('// 3' or '// 3: why'). */
public final class ReadmeTest {
    private static final Pattern EXAMPLE = Pattern.compile("(?s)```java\n(.*?)```");
    private static final Pattern CALL = Pattern.compile("(?:(int \\w+) = )?(land\\..*); *// (-?\\d+)(?:: .*)?");

    private static int answers = 0;
    private static int wrong = 0;

    public static void main(String[] args) throws IOException, ReflectiveOperationException {
        String readme = Files.readString(Path.of("README.md"));
        for (Method m : DustLand.class.getDeclaredMethods()) {
            boolean isOpen = Modifier.isPublic(m.getModifiers());
            if (isOpen && !readme.contains("`" + m.getName() + "`")) fault("README.md doesn't name " + m.getName());
        }
        run(source(readme));
        if (answers == 0) fault("README.md has no example whose answers are told");
        System.out.println("ReadmeTest: " + answers + " answers of examples looked at, " + wrong + " faults");
        if (wrong != 0) System.exit(1);
    }

    private static void fault(String what) {
        wrong++;
        System.out.println(what);
    }

    /** Called by the examples, once they are compiled. */
    public static int due(String call, long got, long want) {
        answers++;
        if (got != want) fault("README.md: " + call + " answered " + got + ", due is " + want);
        return (int) got;
    }

    private static String source(String readme) {
        StringBuilder code = new StringBuilder("public final class Examples { public static void run() {\n");
        Matcher example = EXAMPLE.matcher(readme);
        while (example.find()) {
            code.append("{\n");
            for (String line : example.group(1).split("\n")) code.append(looked(line)).append('\n');
            code.append("}\n");
        }
        return code.append("} }\n").toString();
    }

    private static String looked(String line) {
        Matcher call = CALL.matcher(line);
        if (!call.matches()) return line;
        String name = call.group(2).replace("\\", "\\\\").replace("\"", "\\\"");
        String result = call.group(1) == null ? "" : call.group(1) + " = ";
        return result + "ReadmeTest.due(\"" + name + "\", " + call.group(2) + ", " + call.group(3) + "L);";
    }

    private static void run(String source) throws IOException, ReflectiveOperationException {
        Path out = Files.createTempDirectory("readme");
        try (URLClassLoader loader = new URLClassLoader(new URL[] {out.toUri().toURL()}, ReadmeTest.class.getClassLoader())) {
            if (compiles(source, out)) {
                loader.loadClass("Examples").getMethod("run").invoke(null);
            } else {
                fault("README.md: the examples don't compile");
            }
        } finally {
            Files.deleteIfExists(out.resolve("Examples.class"));
            Files.deleteIfExists(out);
        }
    }

    private static boolean compiles(String source, Path out) throws IOException {
        JavaFileObject file = new SimpleJavaFileObject(URI.create("string:///Examples.java"), JavaFileObject.Kind.SOURCE) {
            @Override
            public CharSequence getCharContent(boolean ignored) {
                return source;
            }
        };
        List<String> options = List.of("-d", out.toString(), "-cp", System.getProperty("java.class.path"));
        JavaCompiler compiler = ToolProvider.getSystemJavaCompiler();
        try (StandardJavaFileManager files = compiler.getStandardFileManager(null, null, null)) {
            return compiler.getTask(null, files, null, options, null, List.of(file)).call();
        }
    }
}
