import java.io.ByteArrayOutputStream;
import java.io.IOException;
import java.io.PrintStream;
import java.lang.reflect.Method;
import java.lang.reflect.Modifier;
import java.net.URL;
import java.net.URLClassLoader;
import java.nio.charset.StandardCharsets;
import java.nio.file.Files;
import java.nio.file.Path;
import java.util.ArrayList;
import java.util.Comparator;
import java.util.List;
import java.util.regex.Matcher;
import java.util.regex.Pattern;
import java.util.stream.Stream;
import javax.tools.JavaCompiler;
import javax.tools.ToolProvider;

/** The example of README.md, compiled as README.md says, prints just the answers told behind its calls. */
public final class ReadmeTest {
    private static final Pattern EXAMPLE = Pattern.compile("```java\n(.*?)```", Pattern.DOTALL);
    private static final Pattern COMPILED = Pattern.compile("(?m)^javac (-d out .* Example\\.java)$");
    /** An answer goes as far as a colon, behind which stands what it means. */
    private static final Pattern TOLD = Pattern.compile("System\\.out\\.println\\((.*)\\);\\s*// ([^:\n]+)");

    public static void main(String[] args) throws Exception {
        String readme = Files.readString(Path.of("README.md")).replace("\r", "");
        Matcher example = EXAMPLE.matcher(readme);
        Matcher compiled = COMPILED.matcher(readme);
        boolean stands = example.find() && compiled.find();
        Kit.due("README.md has an example and says how it is compiled: that", stands, true);
        if (stands) {
            holdAnswers(example.group(1), outputOf(example.group(1), compiled.group(1)));
            Kit.due("README.md has another example: that", example.find(), false);
        }
        namesAllCalls(readme);
        Kit.finish();
    }

    private static void holdAnswers(String example, String output) {
        List<String> calls = new ArrayList<>();
        List<String> answers = new ArrayList<>();
        Matcher told = TOLD.matcher(example);
        while (told.find()) {
            calls.add(told.group(1));
            answers.add(told.group(2).trim());
        }
        Kit.due("answers enough are told: that", answers.size() >= 20, true);
        List<String> printed = output.lines().toList();
        Kit.due("lines that the example prints", printed.size(), answers.size());
        for (int i = 0; i < Math.min(printed.size(), answers.size()); i++) {
            String line = calls.get(i) + " prints " + printed.get(i) + ", as README.md says " + answers.get(i) + ": that";
            Kit.due(line, printed.get(i).equals(answers.get(i)), true);
        }
    }

    /** What the example prints, compiled with the options that stand in README.md, but in a place of its own. */
    private static String outputOf(String example, String options) throws Exception {
        Path place = Files.createTempDirectory("readme");
        try {
            Path file = place.resolve("Example.java");
            Path out = Files.createDirectory(place.resolve("out"));
            Files.writeString(file, example);
            // without a class path of its own the compiler would take EarTown from the tests' classes
            List<String> with = new ArrayList<>(List.of("-cp", out.toString()));
            for (String option : options.split(" ")) {
                with.add(option.equals("out") ? out.toString() : option.equals("Example.java") ? file.toString() : option);
            }
            JavaCompiler compiler = ToolProvider.getSystemJavaCompiler();
            int code = compiler.run(null, null, null, with.toArray(new String[0]));
            Kit.due("javac " + options, code, 0);
            if (code != 0) {
                return "";
            }
            return printedBy(out);
        } finally {
            remove(place);
        }
    }

    /** The class that the example uses is the one compiled with it, not the one that the tests use. */
    private static String printedBy(Path out) throws Exception {
        PrintStream before = System.out;
        ByteArrayOutputStream bytes = new ByteArrayOutputStream();
        try (URLClassLoader loader = new URLClassLoader(new URL[] {out.toUri().toURL()}, ClassLoader.getPlatformClassLoader())) {
            Method main = loader.loadClass("Example").getMethod("main", String[].class);
            System.setOut(new PrintStream(bytes, true, StandardCharsets.UTF_8));
            main.invoke(null, (Object) new String[0]);
        } finally {
            System.setOut(before);
        }
        return bytes.toString(StandardCharsets.UTF_8);
    }

    private static void remove(Path place) throws IOException {
        try (Stream<Path> all = Files.walk(place)) {
            for (Path path : all.sorted(Comparator.reverseOrder()).toList()) {
                Files.delete(path);
            }
        }
    }

    private static void namesAllCalls(String readme) {
        for (Method call : EarTown.class.getDeclaredMethods()) {
            if (Modifier.isPublic(call.getModifiers())) {
                boolean named = Pattern.compile("`" + call.getName() + "\\b").matcher(readme).find();
                Kit.due("README.md names " + call.getName() + ": that", named, true);
            }
        }
    }
}
