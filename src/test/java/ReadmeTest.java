import java.io.ByteArrayOutputStream;
import java.io.IOException;
import java.io.PrintStream;
import java.net.URL;
import java.net.URLClassLoader;
import java.nio.file.Files;
import java.nio.file.Path;
import javax.tools.ToolProvider;

/** README.md "says how to use the class": its example compiles and prints what stands behind it. */
public final class ReadmeTest {
    private static final String NAME = "Example";

    public static void main(String[] args) throws IOException, ReflectiveOperationException {
        String readme = Files.readString(Path.of("README.md"));
        Path folder = Files.createTempDirectory("readme");
        String printed = printedBy(folder, block(readme, "java"));
        String told = block(readme, "text");
        Check.holds("the example printed\n" + printed + "instead of\n" + told + "This",
                printed.equals(told));
        for (String left : new String[] {NAME + ".java", NAME + ".class", ""}) {
            Files.deleteIfExists(folder.resolve(left));
        }
        Check.end();
    }

    /** What stands in the first block of a kind. */
    private static String block(String readme, String kind) {
        String start = "\n```" + kind + "\n";
        int from = readme.indexOf(start) + start.length();
        return readme.substring(from, readme.indexOf("```\n", from));
    }

    private static String printedBy(Path folder, String program)
            throws IOException, ReflectiveOperationException {
        Path file = Files.writeString(folder.resolve(NAME + ".java"), program);
        String classes = System.getProperty("java.class.path");
        int failed = ToolProvider.getSystemJavaCompiler().run(
                null, null, null, "-cp", classes, "-d", folder.toString(), file.toString());
        Check.due("compiling the example", failed, 0);
        return failed == 0 ? printedByMain(folder) : "";
    }

    private static String printedByMain(Path folder)
            throws IOException, ReflectiveOperationException {
        PrintStream before = System.out;
        ByteArrayOutputStream printed = new ByteArrayOutputStream();
        System.setOut(new PrintStream(printed, true));
        try (URLClassLoader loader = new URLClassLoader(new URL[] {folder.toUri().toURL()})) {
            loader.loadClass(NAME).getMethod("main", String[].class).invoke(null, (Object) null);
        } finally {
            System.setOut(before);
        }
        return printed.toString().replace("\r\n", "\n");
    }
}
