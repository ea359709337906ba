import java.io.ByteArrayOutputStream;
import java.io.PrintStream;
import java.lang.reflect.Method;
import java.lang.reflect.Modifier;
import java.net.URL;
import java.net.URLClassLoader;
import java.nio.file.Files;
import java.nio.file.Path;
import java.util.ArrayList;
import java.util.List;
import java.util.regex.Matcher;
import java.util.regex.Pattern;
import javax.tools.ToolProvider;

/** README.md: its example prints what stands behind its lines, and its table has every call. */
public final class ReadmeTest {
    private static final Pattern BLOCK = Pattern.compile("(?s)```java\n(.*?)```");
    private static final Pattern PRINTED = Pattern.compile("println\\((.*)\\);  // (-?[0-9]+)");

    public static void main(String[] args) throws Exception {
        Path root = Path.of(args[0]).toAbsolutePath().getParent().resolve("../../..").normalize();
        String page = Files.readString(root.resolve("README.md"));
        example(page);
        calls(page);
        tests(page, root);
        Check.finish();
    }

    private static void example(String page) throws Exception {
        Matcher block = BLOCK.matcher(page);
        Check.report("the page has an example", Boolean.toString(block.find()), "true");
        List<String> lines = new ArrayList<>();
        List<String> due = new ArrayList<>();
        Matcher printed = PRINTED.matcher(block.group(1));
        while (printed.find()) {
            lines.add(printed.group(1));
            due.add(printed.group(2));
        }
        String[] got = outputOf(block.group(1)).split("\\R");
        Check.report("printed lines", Integer.toString(got.length), Integer.toString(due.size()));
        for (int i = 0; i < due.size() && i < got.length; i++) {
            Check.report(lines.get(i), got[i], due.get(i));
        }
    }

    private static String outputOf(String program) throws Exception {
        Path folder = Files.createTempDirectory("example");
        Path file = folder.resolve("Example.java");
        Files.writeString(file, program);
        int failed = ToolProvider.getSystemJavaCompiler().run(null, null, null, "-encoding", "UTF-8", "-Xlint:all",
            "-cp", System.getProperty("java.class.path"), "-d", folder.toString(), file.toString());
        Check.report("the example compiles", Integer.toString(failed), "0");
        ByteArrayOutputStream written = new ByteArrayOutputStream();
        PrintStream console = System.out;
        try (URLClassLoader loader = new URLClassLoader(new URL[] {folder.toUri().toURL()})) {
            System.setOut(new PrintStream(written, true));
            loader.loadClass("Example").getMethod("main", String[].class).invoke(null, (Object) new String[0]);
        } finally {
            System.setOut(console);
            Files.deleteIfExists(folder.resolve("Example.class"));
            Files.delete(file);
            Files.delete(folder);
        }
        return written.toString();
    }

    /** One row for each call, with as many arguments as it has, and the exceptions that it throws. */
    private static void calls(String page) {
        for (Method m : BridgeNight.class.getDeclaredMethods()) {
            if (Modifier.isPublic(m.getModifiers())) {
                Matcher row = Pattern.compile("(?m)^\\| `" + m.getName() + "\\(([^)]*)\\)` \\|.*$").matcher(page);
                Check.report("a row for " + m.getName(), Boolean.toString(row.find()), "true");
                int told = row.group(1).isEmpty() ? 0 : row.group(1).split(", ").length;
                Check.report("arguments of " + m.getName(), Integer.toString(told),
                    Integer.toString(m.getParameterCount()));
                for (Class<?> thrown : m.getExceptionTypes()) {
                    Check.report(m.getName() + " throws " + thrown.getSimpleName(), Boolean.toString(
                        row.group().contains(thrown.getSimpleName())), "true");
                }
            }
        }
    }

    /** Every file beside the tests is named on the page. */
    private static void tests(String page, Path root) throws Exception {
        try (var files = Files.list(root.resolve("src/test/java"))) {
            for (Path file : files.sorted().toList()) {
                String name = file.getFileName().toString().replace(".java", "");
                Check.report(name + " is named", Boolean.toString(page.contains("`" + name + "`")), "true");
            }
        }
    }
}
