import java.io.ByteArrayOutputStream;
import java.io.IOException;
import java.io.PrintStream;
import java.net.URI;
import java.nio.file.Files;
import java.nio.file.Path;
import java.util.List;
import javax.tools.JavaCompiler;
import javax.tools.JavaFileObject;
import javax.tools.SimpleJavaFileObject;
import javax.tools.ToolProvider;

/** The example of README.md compiles, and prints what README.md says. */
public final class ReadmeTest {
    private static final Checks CHECKS = new Checks();

    public static void main(String[] args) throws IOException, ReflectiveOperationException {
        Path root = Path.of(args.length > 0 ? args[0] : ".");
        String readme = Files.readString(root.resolve("README.md"));
        String want = block(readme, "text");
        String got = printed(block(readme, "java"));
        CHECKS.holds("the example has lines", want.lines().count() > 0);
        CHECKS.holds("the example prints\n" + got + "due is\n" + want, got.equals(want));
        CHECKS.end();
    }

    /** The first block of README.md that is marked so. */
    private static String block(String readme, String mark) {
        String head = "```" + mark + "\n";
        int start = readme.indexOf(head);
        int end = readme.indexOf("```", start + head.length());
        return start < 0 || end < 0 ? "" : readme.substring(start + head.length(), end);
    }

    private static String printed(String lines) throws ReflectiveOperationException {
        String code = "public class Example { public static void main(String[] args) {\n" + lines + "} }";
        JavaFileObject source = new SimpleJavaFileObject(URI.create("string:///Example.java"),
                JavaFileObject.Kind.SOURCE) {
            @Override
            public CharSequence getCharContent(boolean ignoreErrors) {
                return code;
            }
        };
        String classes = System.getProperty("java.class.path");
        JavaCompiler compiler = ToolProvider.getSystemJavaCompiler();
        List<String> options = List.of("--release", "17", "-proc:none", "-cp", classes, "-d", classes);
        if (!compiler.getTask(null, null, null, options, null, List.of(source)).call()) {
            return "nothing: it does not compile\n";
        }
        PrintStream before = System.out;
        ByteArrayOutputStream out = new ByteArrayOutputStream();
        System.setOut(new PrintStream(out, true));
        Class.forName("Example").getMethod("main", String[].class).invoke(null, (Object) new String[0]);
        System.setOut(before);
        return out.toString().replace("\r\n", "\n");
    }
}
