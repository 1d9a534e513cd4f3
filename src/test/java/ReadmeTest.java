import java.io.ByteArrayOutputStream;
import java.io.PrintStream;
import java.net.URL;
import java.net.URLClassLoader;
import java.nio.charset.StandardCharsets;
import java.nio.file.Files;
import java.nio.file.Path;
import java.util.ArrayList;
import java.util.List;
import java.util.regex.Matcher;
import java.util.regex.Pattern;
import javax.tools.JavaCompiler;
import javax.tools.ToolProvider;

/** The example of README.md compiles and answers what stands behind its calls; .ci/run starts it at the root. */
public final class ReadmeTest {
    private static final Pattern EXAMPLE = Pattern.compile("```java\n(.*?)```", Pattern.DOTALL);
    private static final Pattern CALL = Pattern.compile("(tell\\(bench\\.\\S.*?\\));(?: +// (-?\\d+))?");
    private static final Pattern CONSTANT = Pattern.compile("\\| `(\\w+)` \\| (-?\\d+) \\|");

    public static void main(String[] args) throws Exception {
        String readme = Files.readString(Path.of("README.md"));
        example(readme);
        constants(readme);
        Due.end("ReadmeTest");
    }

    private static void example(String readme) throws Exception {
        Matcher found = EXAMPLE.matcher(readme);
        Due.isTrue("there is an example", found.find());
        String code = found.group(1);
        List<String> answers = answersOf(code);
        int next = 0;
        Matcher call = CALL.matcher(code);
        while (call.find()) {
            Due.isTrue("an answer stands behind " + call.group(1), call.group(2) != null);
            String got = next < answers.size() ? answers.get(next) : "nothing";
            Due.isTrue(call.group(1) + " is " + call.group(2) + ", not " + got, got.equals(call.group(2)));
            next++;
        }
        Due.is("calls of the example", answers.size(), next);
    }

    private static List<String> answersOf(String code) throws Exception {
        Path folder = Files.createTempDirectory("readme");
        Path source = folder.resolve("Example.java");
        try {
            Files.writeString(source, code);
            JavaCompiler compiler = ToolProvider.getSystemJavaCompiler();
            int failed = compiler.run(null, null, null, "--release", "17", "-cp",
                System.getProperty("java.class.path"), "-d", folder.toString(), source.toString());
            Due.is("the example compiles", failed, 0);
            return failed == 0 ? printedFrom(folder) : new ArrayList<>();
        } finally {
            Files.deleteIfExists(source);
            Files.deleteIfExists(folder.resolve("Example.class"));
            Files.deleteIfExists(folder);
        }
    }

    private static List<String> printedFrom(Path folder) throws Exception {
        PrintStream before = System.out;
        ByteArrayOutputStream printed = new ByteArrayOutputStream();
        try (URLClassLoader loader = new URLClassLoader(new URL[] {folder.toUri().toURL()})) {
            System.setOut(new PrintStream(printed, true, StandardCharsets.UTF_8));
            loader.loadClass("Example").getMethod("main", String[].class).invoke(null, (Object) new String[0]);
        } finally {
            System.setOut(before);
        }
        return printed.toString(StandardCharsets.UTF_8).lines().toList();
    }

    private static void constants(String readme) throws IllegalAccessException, NoSuchFieldException {
        Matcher row = CONSTANT.matcher(readme);
        int last = 0;
        int rows = 0;
        while (row.find()) {
            int number = LongAgoDraws.class.getField(row.group(1)).getInt(null);
            Due.is("the number of " + row.group(1), Integer.parseInt(row.group(2)), number);
            Due.isTrue(row.group(1) + " stands in its order", number == last - 1);
            last = number;
            rows++;
        }
        Due.is("constants of refusals", rows, 5);
    }
}
