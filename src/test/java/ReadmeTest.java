import java.io.ByteArrayOutputStream;
import java.io.PrintStream;
import java.lang.reflect.Method;
import java.lang.reflect.Modifier;
import java.net.URL;
import java.net.URLClassLoader;
import java.nio.charset.StandardCharsets;
import java.nio.file.DirectoryStream;
import java.nio.file.Files;
import java.nio.file.Path;
import javax.tools.ToolProvider;

/** README.md: its program compiles and prints what stands there, and every call and every test is named. */
public final class ReadmeTest {
    public static void main(String[] args) throws Exception {
        String page = Files.readString(Path.of("README.md"));
        String printed = run(block(page, "java"));
        Check.due("what README's program prints, as told there:\n" + printed, printed.equals(block(page, "text")), true);
        calls(page);
        tests(page);
        Check.end("ReadmeTest");
    }

    /** The first block of a page that is marked so; nothing if there is none. */
    private static String block(String page, String mark) {
        String fence = "```" + mark + "\n";
        int begin = page.indexOf(fence);
        int end = begin < 0 ? -1 : page.indexOf("```", begin + fence.length());
        Check.due("README has a block of " + mark, end > 0, true);
        return end > 0 ? page.substring(begin + fence.length(), end) : "";
    }

    private static String run(String program) throws Exception {
        Path folder = Files.createTempDirectory("readme");
        Path file = folder.resolve("Example.java");
        try {
            Files.writeString(file, program);
            String classes = System.getProperty("java.class.path");
            int code = ToolProvider.getSystemJavaCompiler().run(null, null, null,
                "-Xlint:all", "-Werror", "-cp", classes, "-d", folder.toString(), file.toString());
            Check.due("javac of README's program", code, 0);
            return code == 0 ? printedBy(folder) : "";
        } finally {
            Files.deleteIfExists(file);
            Files.deleteIfExists(folder.resolve("Example.class"));
            Files.delete(folder);
        }
    }

    private static String printedBy(Path folder) throws Exception {
        PrintStream console = System.out;
        ByteArrayOutputStream bytes = new ByteArrayOutputStream();
        try (URLClassLoader loader = new URLClassLoader(new URL[] {folder.toUri().toURL()})) {
            System.setOut(new PrintStream(bytes, true, StandardCharsets.UTF_8));
            loader.loadClass("Example").getMethod("main", String[].class).invoke(null, (Object) new String[0]);
        } finally {
            System.setOut(console);
        }
        return bytes.toString(StandardCharsets.UTF_8);
    }

    private static void calls(String page) {
        for (Method method : RainWalk.class.getDeclaredMethods()) {
            if (Modifier.isPublic(method.getModifiers())) {
                Check.due("README names " + method.getName(), page.contains("`" + method.getName() + "`"), true);
            }
        }
    }

    private static void tests(String page) throws Exception {
        try (DirectoryStream<Path> files = Files.newDirectoryStream(Path.of("src/test/java"), "*Test.java")) {
            for (Path file : files) {
                String name = file.getFileName().toString().replace(".java", "");
                Check.due("README names " + name, page.matches("(?s).*[ ,]" + name + "[ ,].*"), true);
            }
        }
    }
}
