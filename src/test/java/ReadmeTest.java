import java.io.ByteArrayOutputStream;
import java.io.IOException;
import java.io.PrintStream;
import java.net.URL;
import java.net.URLClassLoader;
import java.nio.charset.StandardCharsets;
import java.nio.file.Files;
import java.nio.file.Path;
import java.util.regex.Matcher;
import java.util.regex.Pattern;
import javax.tools.ToolProvider;

/** The example in README.md compiles with the class, and prints what README.md says. */
public final class ReadmeTest {
  private static final Due due = new Due("ReadmeTest");

  public static void main(String[] args) throws Exception {
    String readme = Files.readString(Path.of("README.md"));
    Path directory = Files.createTempDirectory("readme");
    try {
      Path source = directory.resolve("Example.java");
      Files.writeString(source, block(readme, "java"));
      int compiled = ToolProvider.getSystemJavaCompiler().run(null, null, null, "-Xlint:all", "-Werror",
          "-cp", System.getProperty("java.class.path"), "-d", directory.toString(), source.toString());
      due.compare("the example compiles", "0", "" + compiled);
      due.compare("the example prints", block(readme, "text"), compiled == 0 ? printed(directory) : "");
    } finally {
      delete(directory);
    }
    due.compare("how the tests are run", "true", "" + readme.contains("\n    .ci/run\n"));
    due.end();
  }

  private static String block(String readme, String kind) {
    Matcher block = Pattern.compile("(?s)```" + kind + "\n(.*?)```").matcher(readme);
    return block.find() ? block.group(1) : "";
  }

  private static String printed(Path directory) throws Exception {
    PrintStream before = System.out;
    ByteArrayOutputStream bytes = new ByteArrayOutputStream();
    try (URLClassLoader loader = new URLClassLoader(new URL[] {directory.toUri().toURL()});
        PrintStream out = new PrintStream(bytes, true, StandardCharsets.UTF_8)) {
      System.setOut(out);
      loader.loadClass("Example").getMethod("main", String[].class).invoke(null, (Object) new String[0]);
    } finally {
      System.setOut(before);
    }
    return bytes.toString(StandardCharsets.UTF_8).replace(System.lineSeparator(), "\n");
  }

  private static void delete(Path directory) throws IOException {
    for (String name : new String[] {"Example.java", "Example.class"}) {
      Files.deleteIfExists(directory.resolve(name));
    }
    Files.delete(directory);
  }
}
