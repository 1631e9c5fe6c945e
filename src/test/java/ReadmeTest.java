import java.io.ByteArrayOutputStream;
import java.io.IOException;
import java.io.PrintStream;
import java.lang.reflect.Method;
import java.lang.reflect.Modifier;
import java.net.URL;
import java.net.URLClassLoader;
import java.nio.charset.StandardCharsets;
import java.nio.file.Files;
import java.nio.file.Path;
import java.util.ArrayList;
import java.util.List;
import java.util.TreeMap;
import java.util.TreeSet;
import java.util.regex.Matcher;
import java.util.regex.Pattern;
import java.util.stream.Stream;
import javax.tools.ToolProvider;

/** README.md: its programs print what it says, its table tells each call, and it names each test. */
public final class ReadmeTest {
    private static final Pattern PROGRAM = Pattern.compile(
            "(?s)```java\n(public final class (\\w+) .*?)```\n\nprints\n\n```text\n(.*?)```");
    private static final Pattern CALL = Pattern.compile(
            "(?m)^\\| `(\\w+)\\(([^)]*)\\)` \\|[^|\n]*\\|([^|\n]*)\\|([^|\n]*)\\|$");
    private static final Check CHECK = new Check();

    public static void main(String[] args) throws IOException, ReflectiveOperationException {
        String readme = Files.readString(Path.of("README.md"));
        programs(readme);
        calls(readme);
        tests(readme);
        CHECK.end();
    }

    private static void programs(String readme) throws IOException, ReflectiveOperationException {
        Matcher program = PROGRAM.matcher(readme);
        int programs = 0;
        while (program.find()) {
            programs++;
            CHECK.due("program " + program.group(2), output(program.group(2), program.group(1)), program.group(3));
        }
        CHECK.due("programs", programs, 2);
    }

    private static String output(String name, String source) throws IOException, ReflectiveOperationException {
        Path folder = Files.createTempDirectory("readme");
        Path file = folder.resolve(name + ".java");
        Path compiled = folder.resolve(name + ".class");
        PrintStream console = System.out;
        ByteArrayOutputStream printed = new ByteArrayOutputStream();
        try {
            Files.writeString(file, source);
            int exit = ToolProvider.getSystemJavaCompiler().run(null, null, null, "-d", folder.toString(),
                    "-cp", System.getProperty("java.class.path"), file.toString());
            if (exit != 0) {
                return "does not compile";
            }
            System.setOut(new PrintStream(printed, true, StandardCharsets.UTF_8));
            try (URLClassLoader loader = new URLClassLoader(new URL[] {folder.toUri().toURL()})) {
                loader.loadClass(name).getMethod("main", String[].class).invoke(null, (Object) new String[0]);
            }
            return printed.toString(StandardCharsets.UTF_8).replace(System.lineSeparator(), "\n");
        } finally {
            System.setOut(console);
            Files.deleteIfExists(compiled);
            Files.deleteIfExists(file);
            Files.deleteIfExists(folder);
        }
    }

    private static void calls(String readme) {
        TreeMap<String, String> told = new TreeMap<>();
        Matcher call = CALL.matcher(readme);
        while (call.find()) {
            int parameters = call.group(2).isEmpty() ? 0 : call.group(2).split(",").length;
            boolean hasAnswer = !call.group(3).isBlank();
            String exceptions = call.group(4).replaceAll("\\([^)]*\\)", "").replaceAll("\\s+", "");
            told.put(call.group(1), parameters + " " + hasAnswer + " " + exceptions);
        }
        TreeMap<String, String> want = new TreeMap<>();
        for (Method method : PromiseMarket.class.getDeclaredMethods()) {
            if (Modifier.isPublic(method.getModifiers())) {
                List<String> exceptions = new ArrayList<>();
                for (Class<?> exception : method.getExceptionTypes()) {
                    exceptions.add(exception.getSimpleName().replaceAll("OutOfBoundsException|Illegal|Exception", ""));
                }
                want.put(method.getName(), method.getParameterCount() + " " + (method.getReturnType() != void.class)
                        + " " + String.join(",", exceptions));
            }
        }
        CHECK.due("calls in the table", told, want);
    }

    private static void tests(String readme) throws IOException {
        TreeSet<String> missing = new TreeSet<>();
        try (Stream<Path> files = Files.list(Path.of("src/test/java"))) {
            files.map(file -> file.getFileName().toString().replace(".java", ""))
                    .filter(name -> name.matches("\\w+(Test|Edges)") && !name.equals("Edges"))
                    .filter(name -> !readme.contains("| `" + name + "` |"))
                    .forEach(missing::add);
        }
        CHECK.due("tests that the tables do not name", missing, new TreeSet<String>());
    }
}
