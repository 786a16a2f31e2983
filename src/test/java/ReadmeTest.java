import java.lang.reflect.Method;
import java.lang.reflect.Modifier;
import java.net.URL;
import java.net.URLClassLoader;
import java.nio.file.Files;
import java.nio.file.Path;
import java.util.regex.Matcher;
import java.util.regex.Pattern;
import javax.tools.JavaCompiler;
import javax.tools.ToolProvider;

/** README.md holds: its examples compile and answer what they say; it names every call. */
public final class ReadmeTest extends Checks {
    private static final Pattern EXAMPLE = Pattern.compile("(?s)```java\n(.*?)```");
    private static final Pattern ANSWERED =
            Pattern.compile("(?m)^(x\\.(\\w+)\\(.*\\)); *// = ([-.\\w]+).*$");

    public static void main(String[] args) throws Exception {
        String page = Files.readString(Path.of("README.md"));
        everyCallIsNamed(page);
        examplesAnswerAsTold(page);
        end();
    }

    private static void everyCallIsNamed(String page) {
        sentence("README.md: how to use the class");
        for (Method m : ClassBits.class.getDeclaredMethods()) {
            if (Modifier.isPublic(m.getModifiers()) && !page.contains("`" + m.getName() + "`")) {
                fail(m.getName() + " is not told");
            }
        }
    }

    private static void examplesAnswerAsTold(String page) throws Exception {
        sentence("README.md: calls and what they answer");
        StringBuilder source = new StringBuilder("public final class Example {\n");
        source.append("public static void run() {\n");
        int answers = 0;
        Matcher example = EXAMPLE.matcher(page);
        while (example.find()) {
            Matcher answered = ANSWERED.matcher(example.group(1));
            answers += (int) answered.results().count();
            String calls = answered.replaceAll("ReadmeTest.answered(\"$2\", $1, $3);");
            source.append("{\n").append(calls).append("}\n");
        }
        source.append("}\n}\n");
        due("answers that the page tells", answers, page.split("// = ", -1).length - 1);
        if (answers == 0) {
            fail("the page tells no answer");
        }
        run(source.toString());
    }

    /** Public, since the example is loaded by another loader, which makes it another package. */
    public static void answered(String call, long got, long want) {
        due(call, got, want);
    }

    private static void run(String source) throws Exception {
        JavaCompiler compiler = ToolProvider.getSystemJavaCompiler();
        Path place = Files.createTempDirectory("readme");
        Path file = place.resolve("Example.java");
        Path compiled = place.resolve("Example.class");
        Files.writeString(file, source);
        int code = compiler.run(null, null, null, "-cp", System.getProperty("java.class.path"),
                "-d", place.toString(), file.toString());
        due("the compiler", code, 0);
        if (code == 0) {
            URL[] places = {place.toUri().toURL()};
            try (URLClassLoader loader = new URLClassLoader(places)) {
                loader.loadClass("Example").getMethod("run").invoke(null);
            }
        }
        Files.deleteIfExists(compiled);
        Files.deleteIfExists(file);
        Files.deleteIfExists(place);
    }
}
