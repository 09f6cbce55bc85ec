import java.io.ByteArrayOutputStream;
import java.io.IOException;
import java.io.PrintStream;
import java.net.URL;
import java.net.URLClassLoader;
import java.nio.charset.StandardCharsets;
import java.nio.file.Files;
import java.nio.file.Path;
import javax.tools.ToolProvider;

/** README.md's example compiles as it stands there, and prints what README.md says. */
public final class ReadmeTest {
    public static void main(String[] args) throws Exception {
        String readme = Files.readString(Path.of("README.md")).replace("\r\n", "\n");
        String said = block(readme, "text");
        Path folder = Files.createTempDirectory("readme");
        String printed = printedBy(block(readme, "java"), folder);
        boolean right = printed.equals(said);
        System.out.println(right ? "the example prints what README.md says"
            : "the example prints:\n" + printed + "README.md says:\n" + said);
        if (!right) {
            System.exit(1);
        }
    }

    private static String block(String readme, String language) {
        String fence = "\n```";
        String head = fence + language + "\n";
        int begin = readme.indexOf(head);
        int end = begin < 0 ? -1 : readme.indexOf(fence, begin + head.length() - 1);
        if (end < 0) {
            throw new IllegalStateException("README.md has no block of " + language);
        }
        return readme.substring(begin + head.length(), end + 1);
    }

    private static String printedBy(String program, Path folder) throws Exception {
        Path source = folder.resolve("Example.java");
        try {
            Files.writeString(source, program);
            String classes = System.getProperty("java.class.path");
            int code = ToolProvider.getSystemJavaCompiler().run(null, null, null, "-encoding", "UTF-8",
                "-classpath", classes, "-d", folder.toString(), source.toString());
            if (code != 0) {
                throw new IllegalStateException("README.md's example does not compile");
            }
            return printedByMain(folder);
        } finally {
            remove(folder);
        }
    }

    private static String printedByMain(Path folder) throws Exception {
        PrintStream before = System.out;
        ByteArrayOutputStream bytes = new ByteArrayOutputStream();
        try (URLClassLoader loader = new URLClassLoader(new URL[] {folder.toUri().toURL()})) {
            System.setOut(new PrintStream(bytes, true, StandardCharsets.UTF_8));
            loader.loadClass("Example").getMethod("main", String[].class).invoke(null, (Object) new String[0]);
        } finally {
            System.setOut(before);
        }
        return bytes.toString(StandardCharsets.UTF_8).replace("\r\n", "\n");
    }

    private static void remove(Path folder) throws IOException {
        try (var files = Files.list(folder)) {
            for (Path file : files.toList()) {
                Files.delete(file);
            }
        }
        Files.delete(folder);
    }
}
