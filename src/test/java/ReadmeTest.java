import java.io.StringWriter;
import java.lang.reflect.InvocationTargetException;
import java.lang.reflect.Modifier;
import java.net.URL;
import java.net.URLClassLoader;
import java.nio.file.Files;
import java.nio.file.Path;
import java.util.Comparator;
import java.util.regex.Matcher;
import java.util.regex.Pattern;
import java.util.stream.Stream;
import javax.tools.JavaCompiler;
import javax.tools.ToolProvider;

/** README.md's Java, run as it stands there: what is said behind // is what the call answers. */
public final class ReadmeTest {
    private static final Path PAGE = Path.of("README.md");
    private static final Pattern CALL =
        Pattern.compile("(?:int (\\w+) = )?(x\\.\\w+\\(.*\\));\\s+// (true|false|-?[0-9]+)\\b.*");
    private static final int METHODS = 33;

    private static int asked = 0;
    private static int wrong = 0;

    /** Called by what is made of the page. */
    public static void due(String call, Object got, String want) {
        asked++;
        if (!got.toString().equals(want)) {
            wrong++;
            System.out.println("README.md: " + call + " answered " + got + ", the page says " + want);
        }
    }

    public static void main(String[] args) throws Exception {
        StringWriter program = new StringWriter();
        program.write("public final class Page { public static void run() {\n");
        boolean inside = false;
        for (String line : Files.readAllLines(PAGE)) {
            if (line.startsWith("```")) {
                inside = line.equals("```java");
            } else if (inside) {
                program.write(checked(line) + "\n");
            }
        }
        program.write("}}\n");
        runPage(program.toString());
        lookForAllCalls(program.toString());
        System.out.println("readme: " + asked + " answers, " + (wrong == 0 ? "all as the page says" : "WRONG"));
        if (wrong != 0 || asked == 0) {
            System.exit(1);
        }
    }

    private static String checked(String line) {
        Matcher found = CALL.matcher(line);
        if (!found.matches()) {
            return line;
        }
        String call = found.group(2);
        String check = "ReadmeTest.due(\"" + call + "\", ";
        if (found.group(1) == null) {
            return check + call + ", \"" + found.group(3) + "\");";
        }
        return "int " + found.group(1) + " = " + call + "; " + check + found.group(1) + ", \"" + found.group(3) + "\");";
    }

    private static void runPage(String program) throws Exception {
        Path out = Files.createTempDirectory("readme");
        try {
            Path source = Files.writeString(out.resolve("Page.java"), program);
            JavaCompiler compiler = ToolProvider.getSystemJavaCompiler();
            String path = System.getProperty("java.class.path");
            if (compiler.run(null, null, null, "-proc:none", "-cp", path, "-d", out.toString(), source.toString()) != 0) {
                wrong++;
                return;
            }
            try (URLClassLoader loader = new URLClassLoader(new URL[] {out.toUri().toURL()})) {
                loader.loadClass("Page").getMethod("run").invoke(null);
            } catch (InvocationTargetException thrown) {
                wrong++;
                System.out.println("README.md: " + thrown.getCause());
            }
        } finally {
            try (Stream<Path> files = Files.walk(out)) {
                files.sorted(Comparator.reverseOrder()).forEach(path -> path.toFile().delete());
            }
        }
    }

    /** How to use the class: no method of its face is left out. */
    private static void lookForAllCalls(String program) {
        long found = Stream.of(HoldOuts.class.getDeclaredMethods())
            .filter(method -> Modifier.isPublic(method.getModifiers()))
            .filter(method -> program.contains("x." + method.getName() + "("))
            .count();
        if (found != METHODS) {
            wrong++;
            System.out.println("README.md: " + found + " of the methods are used, not " + METHODS);
        }
    }
}
