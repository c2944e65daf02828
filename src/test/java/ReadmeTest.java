import java.io.IOException;
import java.lang.reflect.Method;
import java.net.URL;
import java.net.URLClassLoader;
import java.nio.file.Files;
import java.nio.file.Path;
import java.util.List;
import javax.tools.ToolProvider;

/** The examples of README.md, joined in their order: they compile, and answer what stands beside them. */
public final class ReadmeTest {
    private static final Check CHECK = new Check("ReadmeTest");
    private static final String START = "```java";
    private static final String END = "```";

    private ReadmeTest() {
    }

    public static void main(String[] args) throws IOException, ReflectiveOperationException {
        Path folder = Files.createTempDirectory("readme");
        Path source = folder.resolve("Example.java");
        Files.writeString(source, example(Files.readAllLines(Path.of("README.md"))));
        int compiled = ToolProvider.getSystemJavaCompiler().run(null, null, null, "-cp",
                System.getProperty("java.class.path"), "-d", folder.toString(), source.toString());
        CHECK.due("javac of the examples", compiled, 0);
        if (compiled == 0) {
            dueAnswers(folder);
        }
        try (var files = Files.list(folder)) {
            for (Path file : files.toList()) {
                Files.delete(file);
            }
        }
        Files.delete(folder);
        CHECK.end();
    }

    private static String example(List<String> readme) {
        StringBuilder text = new StringBuilder("public final class Example { public static Object[] run() {\n");
        boolean inside = false;
        for (String line : readme) {
            boolean fence = line.equals(START) || line.equals(END);
            if (inside && !fence) {
                text.append(line).append('\n');
            }
            inside = fence ? line.equals(START) : inside;
        }
        return text + "return new Object[] {height, misclosure, corrected, wet, commands, text.toString()}; } }\n";
    }

    private static void dueAnswers(Path folder) throws IOException, ReflectiveOperationException {
        try (URLClassLoader loader = new URLClassLoader(new URL[] {folder.toUri().toURL()})) {
            Method run = loader.loadClass("Example").getMethod("run");
            Object[] got = (Object[]) run.invoke(null);
            Object[] want = {1154, 4, 1152, 4, 4, "0:0>1 152/5*"};
            for (int i = 0; i < want.length; i++) {
                CHECK.dueText("answer " + i + " of the examples", got[i].toString(), want[i].toString());
            }
        }
    }
}
