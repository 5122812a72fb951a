import java.io.ByteArrayOutputStream;
import java.io.File;
import java.io.IOException;
import java.io.PrintStream;
import java.lang.reflect.Method;
import java.lang.reflect.Modifier;
import java.net.URL;
import java.net.URLClassLoader;
import java.nio.file.Files;
import java.nio.file.Path;
import java.util.regex.Matcher;
import java.util.regex.Pattern;
import javax.tools.JavaCompiler;
import javax.tools.ToolProvider;

/** README.md: its example does what it says there, and it names each call and each test. */
public final class ReadmeTest {
  private static final Check CHECK = new Check("ReadmeTest");
  private static final String SOURCE = "src/main/java/Probehall.java";
  private static final Path OUT = Path.of("build/readme");

  private ReadmeTest() {
  }

  public static void main(String[] args) throws IOException, ReflectiveOperationException {
    String page = Files.readString(Path.of("README.md"));
    exampleAnswers(page);
    callsAreNamed(page);
    testsAreNamed(page);
    CHECK.finish();
  }

  private static String found(String page, String pattern) {
    Matcher matcher = Pattern.compile(pattern, Pattern.DOTALL).matcher(page);
    boolean isFound = matcher.find();
    CHECK.same("the page has " + pattern, isFound, true);
    return isFound ? matcher.group(1) : "";
  }

  private static void exampleAnswers(String page) throws IOException, ReflectiveOperationException {
    String program = found(page, "```java\n(.*?)```");
    String due = found(page, "It prints `(.*?)`");
    Files.createDirectories(OUT);
    Path file = OUT.resolve("Bench.java");
    Files.writeString(file, program);
    JavaCompiler compiler = ToolProvider.getSystemJavaCompiler();
    int refused = compiler.run(null, null, null, "-d", OUT.toString(), SOURCE, file.toString());
    CHECK.same("compiling the example, exit code", refused, 0);
    if (refused == 0) {
      CHECK.same("the example", printed("Bench").trim(), due);
    }
  }

  /** What a program prints; its class is looked for among those that were compiled with it. */
  private static String printed(String name) throws IOException, ReflectiveOperationException {
    PrintStream screen = System.out;
    ByteArrayOutputStream bytes = new ByteArrayOutputStream();
    URL[] places = {OUT.toUri().toURL()};
    try (URLClassLoader loader = new URLClassLoader(places, ClassLoader.getPlatformClassLoader())) {
      System.setOut(new PrintStream(bytes, true));
      Method main = loader.loadClass(name).getMethod("main", String[].class);
      main.invoke(null, (Object) new String[0]);
    } finally {
      System.setOut(screen);
    }
    return bytes.toString();
  }

  private static void callsAreNamed(String page) {
    for (Method method : Probehall.class.getDeclaredMethods()) {
      if (Modifier.isPublic(method.getModifiers())) {
        String name = "`" + method.getName() + "`";
        CHECK.same("the page names " + name, page.contains(name), true);
      }
    }
  }

  private static void testsAreNamed(String page) {
    File[] files = new File("src/test/java").listFiles();
    CHECK.same("there are tests", files != null && files.length > 0, true);
    for (File file : files == null ? new File[0] : files) {
      String name = "`" + file.getName().replace(".java", "") + "`";
      CHECK.same("the page names " + name, page.contains(name), true);
    }
    CHECK.same("the page says how tests are run", page.contains("```sh\n.ci/run\n```"), true);
  }
}
