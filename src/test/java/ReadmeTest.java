import java.io.ByteArrayOutputStream;
import java.io.IOException;
import java.io.PrintStream;
import java.lang.reflect.Field;
import java.lang.reflect.Method;
import java.lang.reflect.Modifier;
import java.net.URL;
import java.net.URLClassLoader;
import java.nio.charset.StandardCharsets;
import java.nio.file.Files;
import java.nio.file.Path;
import java.util.Comparator;
import java.util.List;
import java.util.regex.Matcher;
import java.util.regex.Pattern;
import java.util.stream.Stream;
import javax.tools.JavaCompiler;
import javax.tools.ToolProvider;

/** README.md says how to use the class and how to run its tests: its program runs, and no call or test is left out. */
public final class ReadmeTest {
    private static final Path TESTS = Path.of("src/test/java");
    private static final String EXAMPLE = "Example";

    public static void main(String[] args) throws Exception {
        String readme = Files.readString(Path.of("README.md"));
        programPrintsWhatIsTold(readme);
        everyCallIsTold(readme);
        everyConstantIsTold(readme);
        everyTestIsTold(readme);
        Check.end("ReadmeTest");
    }

    private static void isTold(String what, boolean told) {
        Check.due("README.md: " + what, told ? 1 : 0, 1);
    }

    private static void programPrintsWhatIsTold(String readme) throws Exception {
        String program = block(readme, "java");
        isTold("a whole program", program.contains("public final class " + EXAMPLE));
        Path place = Files.createTempDirectory("readme");
        try {
            Path source = place.resolve(EXAMPLE + ".java");
            Files.writeString(source, program);
            JavaCompiler compiler = ToolProvider.getSystemJavaCompiler();
            int failed = compiler.run(null, null, null, "--release", "17", "-d", place.toString(),
                "-cp", System.getProperty("java.class.path"), source.toString());
            isTold("the program compiles", failed == 0);
            if (failed == 0) {
                isTold("the program prints what is told", printed(place).equals(block(readme, "text")));
            }
        } finally {
            remove(place);
        }
    }

    private static String block(String readme, String language) {
        Matcher found = Pattern.compile("(?ms)^```" + language + "\n(.*?)^```$").matcher(readme);
        boolean isThere = found.find();
        isTold("a block of " + language, isThere);
        return isThere ? found.group(1) : "";
    }

    private static String printed(Path place) throws Exception {
        PrintStream usual = System.out;
        ByteArrayOutputStream bytes = new ByteArrayOutputStream();
        try (URLClassLoader loader = new URLClassLoader(new URL[] {place.toUri().toURL()})) {
            System.setOut(new PrintStream(bytes, true, StandardCharsets.US_ASCII));
            loader.loadClass(EXAMPLE).getMethod("main", String[].class).invoke(null, (Object) new String[0]);
        } finally {
            System.setOut(usual);
        }
        return bytes.toString(StandardCharsets.US_ASCII).replace(System.lineSeparator(), "\n");
    }

    private static void remove(Path place) throws IOException {
        try (Stream<Path> files = Files.walk(place)) {
            for (Path file : files.sorted(Comparator.reverseOrder()).toList()) {
                Files.delete(file);
            }
        }
    }

    private static void everyCallIsTold(String readme) {
        for (Method call : TramWires.class.getDeclaredMethods()) {
            if (Modifier.isPublic(call.getModifiers())) {
                String arguments = "\\w+, ".repeat(call.getParameterCount()).replaceAll(", $", "");
                String row = "(?m)^\\| `" + call.getName() + "\\(" + arguments + "\\)` \\|";
                isTold("a row for " + call.getName(), Pattern.compile(row).matcher(readme).find());
            }
        }
    }

    private static void everyConstantIsTold(String readme) throws IllegalAccessException {
        for (Field constant : TramWires.class.getDeclaredFields()) {
            if (Modifier.isPublic(constant.getModifiers())) {
                String row = "\n| `" + constant.getName() + "` | " + constant.getInt(null) + " |";
                isTold("a row for " + constant.getName(), readme.contains(row));
            }
        }
    }

    private static void everyTestIsTold(String readme) throws IOException {
        List<Path> files;
        try (Stream<Path> all = Files.list(TESTS)) {
            files = all.toList();
        }
        for (Path file : files) {
            String name = file.getFileName().toString().replace(".java", "");
            if (name.endsWith("Test")) {
                isTold("a row for " + name, readme.contains("\n| " + name + " |"));
            }
        }
        isTold("the tests under ../shared/tests", readme.contains("../shared/tests"));
    }
}
