import java.io.ByteArrayOutputStream;
import java.io.PrintStream;
import java.net.URL;
import java.net.URLClassLoader;
import java.nio.file.Files;
import java.nio.file.Path;
import java.util.ArrayList;
import java.util.List;
import java.util.regex.Matcher;
import java.util.regex.Pattern;
import javax.tools.ToolProvider;

/** The example in README.md is compiled and run: it prints what stands behind its lines. */
final class ReadmeTests {
    public static void main(String[] args) throws Exception {
        String readme = Files.readString(Path.of("README.md"));
        Matcher block = Pattern.compile("(?s)```java\n(.*?)```").matcher(readme);
        Check.holds("an example stands in README.md", block.find());
        String example = block.group(1);
        List<String> due = new ArrayList<>();
        Matcher line = Pattern.compile("println\\(.*\\);\\s*// (-?\\d+)").matcher(example);
        while (line.find()) {
            due.add(line.group(1));
        }
        Check.holds("it says what it prints", due.size() > 10);
        List<String> printed = printedBy(example);
        Check.due("lines of the example", due.size(), printed.size());
        for (int i = 0; i < due.size() && i < printed.size(); i++) {
            Check.due("line " + i + " of the example", Long.parseLong(due.get(i)), Long.parseLong(printed.get(i)));
        }
        Check.close("ReadmeTests");
    }

    private static List<String> printedBy(String example) throws Exception {
        Path folder = Files.createTempDirectory("readme");
        Path source = Files.writeString(folder.resolve("Example.java"), example);
        Path made = folder.resolve("Example.class");
        String[] options = {"-cp", System.getProperty("java.class.path"), "-d", folder.toString(), source.toString()};
        Check.due("the example compiles", 0, ToolProvider.getSystemJavaCompiler().run(null, null, null, options));
        ByteArrayOutputStream caught = new ByteArrayOutputStream();
        PrintStream before = System.out;
        try (URLClassLoader loader = new URLClassLoader(new URL[] {folder.toUri().toURL()})) {
            System.setOut(new PrintStream(caught, true));
            loader.loadClass("Example").getMethod("main", String[].class).invoke(null, (Object) new String[0]);
        } finally {
            System.setOut(before);
            Files.deleteIfExists(made);
            Files.delete(source);
            Files.delete(folder);
        }
        return caught.toString().lines().toList();
    }
}
