import java.io.ByteArrayOutputStream;
import java.io.IOException;
import java.io.PrintStream;
import java.lang.reflect.InvocationTargetException;
import java.net.URL;
import java.net.URLClassLoader;
import java.nio.charset.StandardCharsets;
import java.nio.file.Files;
import java.nio.file.Path;
import java.util.ArrayList;
import java.util.Comparator;
import java.util.List;
import java.util.regex.Matcher;
import java.util.regex.Pattern;
import java.util.stream.Stream;
import javax.tools.JavaCompiler;
import javax.tools.ToolProvider;

/**
 * The examples of README.md are compiled and run as they stand there: each line that prints must
 * print what its comment says (up to a colon). Run in the project's folder.
 */
public final class ReadmeTest {
    private static final Pattern BLOCK = Pattern.compile("(?ms)^```java\\n(.*?)^```$");
    private static final Pattern NAME = Pattern.compile("public final class (\\w+)");
    private static final Pattern PRINTED = Pattern.compile("System\\.out\\.println\\(.*\\);\\s*// ([^:]*)(:.*)?");

    public static void main(String[] args) throws IOException {
        String page = Files.readString(Path.of("README.md"));
        int examples = 0;
        Matcher block = BLOCK.matcher(page);
        while (block.find()) {
            examples++;
            look(block.group(1));
        }
        Check.due("examples in README.md", examples, 2);
        everyCallIsNamed(page);
        Check.end("ReadmeTest");
    }

    private static void look(String source) throws IOException {
        Matcher name = NAME.matcher(source);
        Check.due("an example is a class", name.find() ? 1 : 0, 1);
        List<String> told = told(source);
        List<String> printed = printed(name.group(1), source);
        Check.due("lines printed by " + name.group(1), printed.size(), told.size());
        for (int i = 0; i < Math.min(told.size(), printed.size()); i++) {
            Check.same(name.group(1) + ", line " + (i + 1), printed.get(i), told.get(i));
        }
    }

    /** What the comments say; a line that prints and says nothing would not be looked at. */
    private static List<String> told(String source) {
        List<String> told = new ArrayList<>();
        for (String line : source.split("\n")) {
            Matcher m = PRINTED.matcher(line.trim());
            boolean says = m.matches();
            Check.due("says its answer: " + line, says == line.contains("println") ? 1 : 0, 1);
            if (says) {
                told.add(m.group(1).trim());
            }
        }
        Check.due("an example tells something", told.isEmpty() ? 0 : 1, 1);
        return told;
    }

    private static List<String> printed(String name, String source) throws IOException {
        Path folder = Files.createTempDirectory("readme");
        PrintStream out = System.out;
        ByteArrayOutputStream caught = new ByteArrayOutputStream();
        try {
            Path file = Files.writeString(folder.resolve(name + ".java"), source);
            JavaCompiler compiler = ToolProvider.getSystemJavaCompiler();
            int code = compiler.run(null, null, null, "-Xlint:all", "-Werror", "-cp",
                System.getProperty("java.class.path"), "-d", folder.toString(), file.toString());
            Check.due(name + " compiles", code, 0);
            System.setOut(new PrintStream(caught, true, StandardCharsets.UTF_8));
            try (URLClassLoader loader = new URLClassLoader(new URL[] {folder.toUri().toURL()})) {
                loader.loadClass(name).getMethod("main", String[].class).invoke(null, (Object) new String[0]);
            }
        } catch (ReflectiveOperationException e) {
            Throwable thrown = e instanceof InvocationTargetException ? e.getCause() : e;
            Check.same(name + " runs", thrown.toString(), "");
        } finally {
            System.setOut(out);
            remove(folder);
        }
        return caught.toString(StandardCharsets.UTF_8).lines().toList();
    }

    private static void remove(Path folder) throws IOException {
        try (Stream<Path> all = Files.walk(folder)) {
            for (Path path : all.sorted(Comparator.reverseOrder()).toList()) {
                Files.delete(path);
            }
        }
    }

    private static void everyCallIsNamed(String page) {
        for (java.lang.reflect.Method m : HillsLieDown.class.getDeclaredMethods()) {
            if (java.lang.reflect.Modifier.isPublic(m.getModifiers())) {
                Check.due("README.md names " + m.getName(), page.contains("`" + m.getName() + "`") ? 1 : 0, 1);
            }
        }
    }
}
