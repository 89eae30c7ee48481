import java.io.ByteArrayOutputStream;
import java.io.PrintStream;
import java.lang.reflect.Method;
import java.net.URL;
import java.net.URLClassLoader;
import java.nio.charset.StandardCharsets;
import java.nio.file.DirectoryStream;
import java.nio.file.Files;
import java.nio.file.Path;
import javax.tools.ToolProvider;

/** README.md holds: its example compiles and prints what it says, and every call and every test is named. */
public final class ReadmeTest {
    private static final Check CHECK = new Check();
    private static final Path BUILD = Path.of("build", "readme");

    public static void main(String[] args) throws Exception {
        String page = Files.readString(Path.of("README.md"), StandardCharsets.UTF_8);
        CHECK.same("what the example prints", block(page, "text"), printed(block(page, "java")));
        namesCalls(page);
        namesTests(page);
        CHECK.end("ReadmeTest");
    }

    /** The lines between the first fence of this kind and the next fence. */
    private static String block(String page, String kind) {
        String fence = "```" + kind + "\n";
        int begin = page.indexOf(fence);
        int end = begin < 0 ? -1 : page.indexOf("```\n", begin + fence.length());
        CHECK.same("there is a block of " + kind, "true", "" + (end >= 0));
        return end < 0 ? "" : page.substring(begin + fence.length(), end);
    }

    private static String printed(String source) throws Exception {
        Files.createDirectories(BUILD);
        Path file = BUILD.resolve("Example.java");
        Files.writeString(file, source, StandardCharsets.UTF_8);
        int code = ToolProvider.getSystemJavaCompiler().run(null, null, null, "-Xlint:all", "-Werror",
            "-cp", System.getProperty("java.class.path"), "-d", BUILD.toString(), file.toString());
        CHECK.same("the example compiles", "0", "" + code);
        return code == 0 ? run() : "";
    }

    private static String run() throws Exception {
        ByteArrayOutputStream told = new ByteArrayOutputStream();
        PrintStream before = System.out;
        try (URLClassLoader loader = new URLClassLoader(new URL[] {BUILD.toUri().toURL()})) {
            Method main = loader.loadClass("Example").getMethod("main", String[].class);
            System.setOut(new PrintStream(told, true, StandardCharsets.UTF_8));
            main.invoke(null, (Object) new String[0]);
        } finally {
            System.setOut(before);
        }
        return told.toString(StandardCharsets.UTF_8).replace(System.lineSeparator(), "\n");
    }

    private static void namesCalls(String page) {
        for (Method m : SaltMarket.class.getMethods()) {
            if (m.getDeclaringClass() == SaltMarket.class) {
                named(page, "`" + m.getName() + "(");
            }
        }
    }

    private static void namesTests(String page) throws Exception {
        try (DirectoryStream<Path> tests = Files.newDirectoryStream(Path.of("src", "test", "java"), "*.java")) {
            for (Path test : tests) {
                named(page, "`" + test.getFileName().toString().replace(".java", "") + "`");
            }
        }
    }

    private static void named(String page, String name) {
        CHECK.same("README.md names " + name, "true", "" + page.contains(name));
    }
}
