import java.io.ByteArrayOutputStream;
import java.io.IOException;
import java.io.PrintStream;
import java.lang.reflect.InvocationTargetException;
import java.net.URI;
import java.net.URL;
import java.net.URLClassLoader;
import java.nio.charset.StandardCharsets;
import java.nio.file.Files;
import java.nio.file.Path;
import java.util.List;
import java.util.stream.Stream;
import javax.tools.JavaCompiler;
import javax.tools.JavaFileObject;
import javax.tools.SimpleJavaFileObject;
import javax.tools.ToolProvider;

/** The program in README.md is compiled and run: it must print what README.md says. */
public final class ReadmeTest {
    /** The source of a program that is no file. */
    private static final class Source extends SimpleJavaFileObject {
        private final String text;

        Source(String text) {
            super(URI.create("string:///Example.java"), JavaFileObject.Kind.SOURCE);
            this.text = text;
        }

        @Override
        public CharSequence getCharContent(boolean ignoreEncodingErrors) {
            return text;
        }
    }

    /** The first block of that kind; empty if there is none. */
    private static String block(String page, String kind) {
        String mark = "```" + kind + "\n";
        int from = page.indexOf(mark);
        int to = from < 0 ? -1 : page.indexOf("```", from + mark.length());
        return to < 0 ? "" : page.substring(from + mark.length(), to);
    }

    private static String printed(JavaCompiler compiler, String program, Path out) throws IOException, ReflectiveOperationException {
        List<String> options = List.of("-cp", System.getProperty("java.class.path"), "-d", out.toString());
        if (!compiler.getTask(null, null, null, options, null, List.of(new Source(program))).call()) {
            return "(it can't be compiled)\n";
        }
        PrintStream before = System.out;
        ByteArrayOutputStream bytes = new ByteArrayOutputStream();
        try (URLClassLoader loader = new URLClassLoader(new URL[] {out.toUri().toURL()})) {
            System.setOut(new PrintStream(bytes, true, StandardCharsets.UTF_8));
            loader.loadClass("Example").getMethod("main", String[].class).invoke(null, (Object) new String[0]);
        } catch (InvocationTargetException e) {
            return "(it throws " + e.getCause() + ")\n";
        } finally {
            System.setOut(before);
        }
        return bytes.toString(StandardCharsets.UTF_8).replace("\r\n", "\n");
    }

    private static void clear(Path out) throws IOException {
        try (Stream<Path> files = Files.list(out)) {
            for (Path file : files.toList()) {
                Files.delete(file);
            }
        }
        Files.delete(out);
    }

    public static void main(String[] args) throws IOException, ReflectiveOperationException {
        JavaCompiler compiler = ToolProvider.getSystemJavaCompiler();
        if (compiler == null) {
            System.out.println("ReadmeTest: this Java machine brings no compiler; nothing was looked at");
            return;
        }
        String page = Files.readString(Path.of("README.md")).replace("\r\n", "\n");
        Path out = Files.createTempDirectory("readme");
        String got = printed(compiler, block(page, "java"), out);
        clear(out);
        String due = block(page, "text");
        boolean same = !due.isEmpty() && got.equals(due);
        System.out.println(same ? "ReadmeTest: the program prints what the page says"
                : "ReadmeTest: the program prints\n" + got + "but the page says\n" + due);
        if (!same) {
            System.exit(1);
        }
    }
}
