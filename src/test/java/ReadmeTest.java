import java.io.ByteArrayOutputStream;
import java.lang.reflect.Method;
import java.net.URL;
import java.net.URLClassLoader;
import java.nio.file.Files;
import java.nio.file.Path;
import java.util.Comparator;
import java.util.List;
import java.util.regex.Matcher;
import java.util.regex.Pattern;
import java.util.stream.Stream;
import javax.tools.JavaCompiler;
import javax.tools.ToolProvider;

/** What README.md shows is compiled and run as it stands there: each call answers what it says behind it. */
public final class ReadmeTest {
    private static final Pattern EXAMPLE = Pattern.compile("(?s)```java\n(.*?)```");
    private static final Pattern ANSWERED = Pattern.compile("(x\\..*);\\s*// (-?\\d+)\\b.*");
    private static int checks = 0;
    private static int wrong = 0;

    /** The example calls it, from a class of its own. */
    public static void due(String call, long got, long want) {
        checks++;
        if (got != want) {
            wrong++;
            System.out.println("README.md: " + call + " answered " + got + ", it says " + want);
        }
    }

    public static void main(String[] args) throws Exception {
        Matcher m = EXAMPLE.matcher(Files.readString(Path.of("README.md")));
        int examples = 0;
        while (m.find()) {
            run(m.group(1), "Example" + examples++);
        }
        if (checks == 0) {
            wrong++;
            System.out.println("README.md shows no call with its answer");
        }
        System.out.println(examples + " examples, " + checks + " answers, " + wrong + " wrong");
        if (wrong != 0) System.exit(1);
    }

    private static String asProgram(String example, String name) {
        StringBuilder s = new StringBuilder("public final class " + name + " {\n    public static void run() {\n");
        for (String line : example.split("\n")) {
            Matcher m = ANSWERED.matcher(line);
            s.append(m.matches() ? "ReadmeTest.due(\"" + m.group(1) + "\", " + m.group(1) + ", " + m.group(2) + "L);" : line).append('\n');
        }
        return s.append("    }\n}\n").toString();
    }

    private static void run(String example, String name) throws Exception {
        Path folder = Files.createTempDirectory("readme");
        try {
            Path source = folder.resolve(name + ".java");
            Files.writeString(source, asProgram(example, name));
            JavaCompiler compiler = ToolProvider.getSystemJavaCompiler();
            ByteArrayOutputStream said = new ByteArrayOutputStream();
            String here = System.getProperty("java.class.path");
            if (compiler == null || compiler.run(null, said, said, "-cp", here, "-d", folder.toString(), source.toString()) != 0) {
                wrong++;
                System.out.println("README.md: an example can't be compiled: " + said);
                return;
            }
            try (URLClassLoader loader = new URLClassLoader(new URL[] {folder.toUri().toURL()})) {
                Method run = loader.loadClass(name).getMethod("run");
                run.invoke(null);
            }
        } finally {
            try (Stream<Path> all = Files.walk(folder)) {
                List<Path> inside = all.sorted(Comparator.reverseOrder()).toList();
                for (Path p : inside) Files.delete(p);
            }
        }
    }
}
