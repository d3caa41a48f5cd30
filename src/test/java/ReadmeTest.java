import java.io.ByteArrayOutputStream;
import java.io.IOException;
import java.io.PrintStream;
import java.net.URI;
import java.nio.charset.StandardCharsets;
import java.nio.file.Files;
import java.nio.file.Path;
import java.util.ArrayList;
import java.util.List;
import java.util.regex.Matcher;
import java.util.regex.Pattern;
import javax.tools.JavaCompiler;
import javax.tools.JavaFileObject;
import javax.tools.SimpleJavaFileObject;
import javax.tools.ToolProvider;

/** The examples of README.md print what stands behind the first // of each println's line. */
public final class ReadmeTest {
    private static final Pattern BLOCK = Pattern.compile("```java\n(.*?)```", Pattern.DOTALL);
    private static final Pattern PRINTED = Pattern.compile("println\\(.*// (\\w+):");

    public static void main(String[] args) throws IOException, ReflectiveOperationException {
        Due.part("README.md");
        Matcher blocks = BLOCK.matcher(Files.readString(Path.of("README.md")));
        int found = 0;
        while (blocks.find()) {
            found++;
            example("Example" + found, blocks.group(1));
        }
        Due.due("examples", found, 2);
        Due.exit();
    }

    private static void example(String name, String lines) throws IOException, ReflectiveOperationException {
        List<String> due = new ArrayList<>();
        Matcher printed = PRINTED.matcher(lines);
        while (printed.find()) {
            due.add(printed.group(1));
        }
        Due.due(name + " prints something", due.isEmpty() ? 0 : 1, 1);
        List<String> got = run(name, "public class " + name + " { public static void main(String[] args) {\n" + lines + "} }\n");
        Due.dueSame(name, got.toString(), due.toString());
    }

    private static List<String> run(String name, String source) throws IOException, ReflectiveOperationException {
        // beside this test, so that it's found without a path of its own
        Path classes = Path.of(URI.create(ReadmeTest.class.getProtectionDomain().getCodeSource().getLocation().toString()));
        JavaCompiler compiler = ToolProvider.getSystemJavaCompiler();
        JavaFileObject file = new SimpleJavaFileObject(URI.create("string:///" + name + ".java"), JavaFileObject.Kind.SOURCE) {
            @Override
            public CharSequence getCharContent(boolean ignoreEncodingErrors) {
                return source;
            }
        };
        List<String> options = List.of("-d", classes.toString(), "-cp", System.getProperty("java.class.path"));
        boolean compiled = compiler.getTask(null, null, null, options, null, List.of(file)).call();
        Due.due(name + " compiles", compiled ? 1 : 0, 1);
        return compiled ? printedBy(Class.forName(name)) : List.of();
    }

    private static List<String> printedBy(Class<?> example) throws ReflectiveOperationException {
        PrintStream before = System.out;
        ByteArrayOutputStream bytes = new ByteArrayOutputStream();
        System.setOut(new PrintStream(bytes, true, StandardCharsets.UTF_8));
        example.getMethod("main", String[].class).invoke(null, (Object) new String[0]);
        System.setOut(before);
        return bytes.toString(StandardCharsets.UTF_8).lines().toList();
    }
}
