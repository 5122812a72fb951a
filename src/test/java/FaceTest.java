import java.io.IOException;
import java.lang.reflect.Constructor;
import java.lang.reflect.Field;
import java.lang.reflect.Method;
import java.lang.reflect.Modifier;
import java.nio.file.Files;
import java.nio.file.Path;
import java.util.ArrayList;
import java.util.Arrays;
import java.util.List;
import java.util.TreeSet;
import java.util.regex.Matcher;
import java.util.regex.Pattern;
import java.util.stream.Collectors;

/** The public face of the class, and those rules of the language that can be seen from outside. */
public final class FaceTest {
  private static final Check CHECK = new Check("FaceTest");
  private static final Path SOURCE = Path.of("src/main/java/Probehall.java");
  private static final Path DOCUMENT = Path.of("../shared/DOC.md");

  private static final String INDEX = "IndexOutOfBoundsException";
  private static final String ARGUMENT = "IllegalArgumentException";
  private static final String STATE = "IllegalStateException";
  private static final String ELEMENT = "NoSuchElementException";
  private static final String USE = "UnsupportedOperationException";

  private FaceTest() {
  }

  public static void main(String[] args) throws IOException {
    face();
    faceOfTheDocument();
    membersAreHidden(Probehall.class);
    source();
    CHECK.finish();
  }

  private static void face() {
    CHECK.same("the class", Modifier.toString(Probehall.class.getModifiers()), "public final");
    Constructor<?>[] made = Probehall.class.getDeclaredConstructors();
    CHECK.same("constructors", made.length, 1);
    CHECK.same("the constructor", made[0].toString(), "public Probehall()");
    TreeSet<String> due = new TreeSet<>(List.of(
        "boolean idle(int, boolean) " + INDEX,
        "int flip(int, int) " + INDEX + ", " + ARGUMENT + ", " + STATE,
        "boolean level(int, int) " + INDEX + ", " + ARGUMENT,
        "int glitch(int, int, int) " + INDEX + ", " + ARGUMENT + ", " + STATE,
        "int drift(int) " + ARGUMENT,
        "int serial(int, int, int, int, char) " + INDEX + ", " + ARGUMENT + ", " + STATE,
        "boolean answers(boolean, boolean) ",
        "int twoWires(int, int, int, boolean, int, int, int, int) " + INDEX + ", " + ARGUMENT
            + ", " + STATE,
        "int fourWires(int, int, int, int, int, int, int) " + INDEX + ", " + ARGUMENT + ", " + STATE,
        "int capture(int, int, int, int) " + INDEX + ", " + ARGUMENT,
        "int samples(int) " + INDEX,
        "int sample(int, int) " + INDEX + ", " + ELEMENT,
        "int runs(int, int) " + INDEX,
        "int run(int, int, int) " + INDEX + ", " + ELEMENT,
        "int shortest(int, int) " + INDEX + ", " + ELEMENT,
        "char block(int, int, int, int) " + INDEX + ", " + ARGUMENT + ", " + ELEMENT,
        "int step(char, int, int) " + INDEX + ", " + ARGUMENT + ", " + STATE,
        "int reset() ",
        "int trigger(int) " + INDEX + ", " + USE + ", " + ELEMENT,
        "int decodeSerial(int, int, int, char) " + INDEX + ", " + ARGUMENT,
        "int decodeTwo(int, int, int) " + INDEX + ", " + ARGUMENT,
        "int decodeFour(int, int, int, int, int) " + INDEX + ", " + ARGUMENT,
        "int notes() ", "char kind(int) " + INDEX, "int begin(int) " + INDEX,
        "int end(int) " + INDEX, "int value(int) " + INDEX, "char fault(int) " + INDEX,
        "int rate(int, int) " + INDEX + ", " + ELEMENT,
        "int register(int, int) " + ARGUMENT, "int follows(int, int) " + ARGUMENT,
        "int alike(int) " + ARGUMENT, "int differs(int) " + ARGUMENT + ", " + ELEMENT,
        "int best(int) " + ARGUMENT + ", " + USE, "int flips() ", "long checksum() ",
        "float highShare(int, int) " + INDEX + ", " + ELEMENT,
        "double meanRun(int, int) " + INDEX + ", " + ELEMENT, "boolean isSound() "));
    CHECK.same("the public methods", publicMethods(), due);
  }

  private static TreeSet<String> publicMethods() {
    TreeSet<String> result = new TreeSet<>();
    for (Method method : Probehall.class.getDeclaredMethods()) {
      if (!Modifier.isPrivate(method.getModifiers())) {
        CHECK.same("modifiers of " + method.getName(), method.getModifiers(), Modifier.PUBLIC);
        result.add(method.getReturnType() + " " + method.getName() + "("
            + names(method.getParameterTypes()) + ") " + names(method.getExceptionTypes()));
      }
    }
    return result;
  }

  private static String names(Class<?>[] classes) {
    return Arrays.stream(classes).map(Class::getSimpleName).collect(Collectors.joining(", "));
  }

  /** The signatures stand in the source just as the document has them. */
  private static void faceOfTheDocument() throws IOException {
    String document = Files.readString(DOCUMENT);
    String block = document.substring(document.indexOf("public final class Probehall {"));
    String source = Files.readString(SOURCE).replaceAll("\\s+", " ");
    int found = 0;
    for (String line : block.substring(0, block.indexOf("```")).split("\n")) {
      if (line.startsWith("    public ")) {
        found++;
        String signature = line.trim().replace(";", " {");
        CHECK.same(signature, source.contains(signature), true);
      }
    }
    CHECK.same("signatures of the document", found, 40);
  }

  private static void membersAreHidden(Class<?> seen) {
    TreeSet<String> open = new TreeSet<>();
    for (Method method : Probehall.class.getDeclaredMethods()) {
      if (Modifier.isPublic(method.getModifiers())) {
        open.add(method.getName());
      }
    }
    int fields = 0;
    for (Field field : seen.getDeclaredFields()) {
      boolean isStatic = Modifier.isStatic(field.getModifiers());
      CHECK.same(field + " is constant or of an object",
          !isStatic || Modifier.isFinal(field.getModifiers()), true);
      CHECK.same(field + " is hidden", seen != Probehall.class
          || Modifier.isPrivate(field.getModifiers()), true);
      fields += isStatic ? 0 : 1;
    }
    CHECK.same("at most 20 fields in " + seen, fields <= 20, true);
    for (Method method : seen.getDeclaredMethods()) {
      boolean isOpen = Modifier.isPublic(method.getModifiers());
      CHECK.same(method + " has a name of its own", isOpen || !open.contains(method.getName()),
          true);
      CHECK.same(method + " has at most seven parameters",
          method.getParameterCount() <= 7 || method.getName().equals("twoWires"), true);
    }
    for (Class<?> inside : seen.getDeclaredClasses()) {
      CHECK.same(inside + " is static and hidden", Modifier.isStatic(inside.getModifiers())
          && !Modifier.isPublic(inside.getModifiers()), true);
      membersAreHidden(inside);
    }
    CHECK.same("at most 12 classes", Probehall.class.getDeclaredClasses().length < 12, true);
  }

  private static void source() throws IOException {
    String code = withoutComments(Files.readString(SOURCE));
    for (String word : List.of("->", "::", "finally", "synchronized", "assert", "instanceof",
        "try", "catch", "package", "Math.floor", "Exact", "record", "System", "Thread", "while (true)",
        "for (;;)")) {
      CHECK.same("no " + word, Pattern.compile("(?<!\\w)" + Pattern.quote(word)).matcher(code)
          .find(), false);
    }
    List<String> imports = new ArrayList<>();
    Matcher matcher = Pattern.compile("import ([\\w.]+);").matcher(code);
    while (matcher.find()) {
      imports.add(matcher.group(1));
    }
    CHECK.same("imports", imports, List.of("java.util.Arrays", "java.util.NoSuchElementException"));
    CHECK.same("signs from 1 to 127", code.chars().allMatch(sign -> sign > 0 && sign < 128), true);
    methodsAreShort(code);
  }

  private static String withoutComments(String code) {
    return code.replaceAll("(?s)/\\*.*?\\*/", "").replaceAll("//[^\n]*", "");
  }

  private static void methodsAreShort(String code) {
    String[] lines = code.split("\n");
    String end = null;
    int begun = 0;
    for (int i = 0; i < lines.length; i++) {
      if (end == null && lines[i].matches("( {2}| {4})[A-Za-z].*\\(.*[^;]")) {
        end = lines[i].startsWith("    ") ? "    }" : "  }";
        begun = i;
      } else if (lines[i].equals(end)) {
        CHECK.same("at most 60 lines behind: " + lines[begun].trim(), i - begun <= 60, true);
        end = null;
      }
    }
  }
}
