import java.io.ByteArrayOutputStream;
import java.io.IOException;
import java.io.PrintStream;
import java.lang.reflect.Method;
import java.lang.reflect.Modifier;
import java.net.URL;
import java.net.URLClassLoader;
import java.nio.file.Files;
import java.nio.file.Path;
import java.util.ArrayList;
import java.util.List;
import java.util.regex.Matcher;
import java.util.regex.Pattern;

/**
 * The examples of README.md compile, and each line of them that prints prints what stands behind it (up to
 * a ";"); no call of the class and no test of the project is missing there.
 */
public final class ReadmeTest {
    private static final Path README = Path.of("README.md");
    private static final Path BUILD = Path.of("build", "ci", "readme");

    public static void main(String[] args) throws IOException, InterruptedException {
        String text = Files.readString(README);
        List<String> examples = examples(text);
        Check.due("there are examples", true, examples.size() > 0);
        boolean isCompiled = compile(examples);
        Check.due("they compile", true, isCompiled);
        for (int number = 0; isCompiled && number < examples.size(); number++) {
            dueLines(number, wanted(examples.get(number)), run(number));
        }
        nothingIsMissing(text);
        Check.due(".ci/run can be run", true, Files.isExecutable(Path.of(".ci", "run")));
        Check.end("ReadmeTest");
    }

    private static List<String> examples(String text) {
        List<String> examples = new ArrayList<>();
        Matcher block = Pattern.compile("(?s)```java\n(.*?)```").matcher(text);
        while (block.find()) {
            examples.add(block.group(1));
        }
        return examples;
    }

    private static boolean compile(List<String> examples) throws IOException, InterruptedException {
        Files.createDirectories(BUILD);
        List<String> command = new ArrayList<>(List.of("javac", "-d", BUILD.toString(), "-cp",
                System.getProperty("java.class.path")));
        for (int number = 0; number < examples.size(); number++) {
            Path file = BUILD.resolve("Example" + number + ".java");
            Files.writeString(file, "public final class Example" + number
                    + " {\npublic static void main(String[] args) {\n" + examples.get(number) + "}\n}\n");
            command.add(file.toString());
        }
        return new ProcessBuilder(command).inheritIO().start().waitFor() == 0;
    }

    private static List<String> wanted(String example) {
        List<String> lines = new ArrayList<>();
        Matcher line = Pattern.compile("System\\.out\\.println\\(.*\\); +// ([^;\n]*)").matcher(example);
        while (line.find()) {
            lines.add(line.group(1));
        }
        return lines;
    }

    private static List<String> run(int number) throws IOException {
        PrintStream before = System.out;
        ByteArrayOutputStream printed = new ByteArrayOutputStream();
        try (URLClassLoader loader = new URLClassLoader(new URL[] {BUILD.toUri().toURL()})) {
            Method main = loader.loadClass("Example" + number).getMethod("main", String[].class);
            System.setOut(new PrintStream(printed, true));
            main.invoke(null, (Object) new String[0]);
        } catch (ReflectiveOperationException e) {
            Check.due("example " + number + " runs", "", String.valueOf(e.getCause()));
        } finally {
            System.setOut(before);
        }
        return printed.toString().lines().toList();
    }

    private static void dueLines(int number, List<String> want, List<String> got) {
        Check.due("example " + number + " prints so many lines", want.size(), got.size());
        for (int line = 0; line < want.size() && line < got.size(); line++) {
            Check.due("example " + number + ", line " + line + " printed", want.get(line), got.get(line));
        }
    }

    private static void nothingIsMissing(String text) throws IOException {
        for (Method method : MaxplusJunction.class.getDeclaredMethods()) {
            if (Modifier.isPublic(method.getModifiers())) {
                Check.due("names " + method.getName(), true, text.contains("`" + method.getName() + "`"));
            }
        }
        try (var files = Files.list(Path.of("src", "test", "java"))) {
            for (Path file : files.toList()) {
                String name = file.getFileName().toString().replace(".java", "");
                Check.due("names " + name, true, name.equals("Check") || text.contains("`" + name + "`"));
            }
        }
    }
}
