import java.io.IOException;
import java.net.URL;
import java.net.URLClassLoader;
import java.nio.file.Files;
import java.nio.file.Path;
import java.util.ArrayList;
import java.util.Comparator;
import java.util.List;
import java.util.regex.Matcher;
import java.util.regex.Pattern;
import java.util.stream.Stream;
import javax.tools.JavaCompiler;
import javax.tools.ToolProvider;

/** The example in README.md is compiled and run as it stands there: each call answers what is written behind it. */
final class ReadmeTest {
    private static final Pattern ANSWERED = Pattern.compile("(town\\..*); +// (-?\\d+): .*");

    public static void main(String[] args) throws IOException, ReflectiveOperationException {
        List<String> lines = Files.readAllLines(Path.of("README.md"));
        int from = lines.indexOf("```java") + 1;
        int to = from + lines.subList(from, lines.size()).indexOf("```");
        Due.is("README.md has an example", from > 0 && to > from, true);
        List<String> asked = new ArrayList<>();
        List<Long> due = new ArrayList<>();
        StringBuilder code = new StringBuilder("public final class Example {\n")
            .append("public static void run(java.util.List<Long> got) {\n");
        for (String line : lines.subList(from, to)) {
            Matcher call = ANSWERED.matcher(line);
            if (call.matches()) {
                asked.add(call.group(1));
                due.add(Long.valueOf(call.group(2)));
                code.append("got.add((long) ").append(call.group(1)).append(");\n");
            } else {
                code.append(line).append('\n');
            }
        }
        List<Long> got = run(code.append("} }\n").toString());
        Due.is("the example has calls with answers", got.size() > 0, true);
        Due.is("all of them answered", got.size(), asked.size());
        for (int i = 0; i < got.size(); i++) {
            Due.is(asked.get(i), got.get(i), due.get(i));
        }
        Due.finish();
    }

    private static List<Long> run(String code) throws IOException, ReflectiveOperationException {
        List<Long> got = new ArrayList<>();
        Path folder = Files.createTempDirectory("readme");
        try {
            Path file = Files.writeString(folder.resolve("Example.java"), code);
            JavaCompiler javac = ToolProvider.getSystemJavaCompiler();
            int failed = javac.run(null, null, null, "-cp", System.getProperty("java.class.path"), "-d",
                folder.toString(), file.toString());
            Due.is("the example compiles", failed, 0);
            try (URLClassLoader loader = new URLClassLoader(new URL[] {folder.toUri().toURL()})) {
                loader.loadClass("Example").getMethod("run", List.class).invoke(null, got);
            }
        } finally {
            empty(folder);
        }
        return got;
    }

    private static void empty(Path folder) throws IOException {
        try (Stream<Path> files = Files.walk(folder)) {
            for (Path file : files.sorted(Comparator.reverseOrder()).toList()) {
                Files.delete(file);
            }
        }
    }
}
