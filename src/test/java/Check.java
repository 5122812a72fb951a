import java.io.IOException;
import java.nio.file.Files;
import java.nio.file.Path;
import java.util.function.Consumer;
import java.util.function.Supplier;

/** Counts what a test checks, and tells what is not as it is due. */
final class Check {
  private static final Path DOCUMENT = Path.of("../shared/DOC.md");

  private final String name;
  private String document = "";
  private String sentence = "";
  private int checks;
  private int wrong;

  Check(String name) {
    this.name = name;
  }

  /**
   * Names the words of the document that the checks behind this one are about. They are looked for
   * in the document, so that a test of words that it no longer has is found.
   */
  void says(String words) {
    if (document.isEmpty()) {
      document = read(DOCUMENT).replaceAll("\\s+", " ");
    }
    sentence = "";
    same("the document says: " + words, document.contains(words), true);
    sentence = " [" + words + "]";
  }

  private static String read(Path file) {
    try {
      return Files.readString(file);
    } catch (IOException e) {
      return "nothing, as " + file + " can't be read";
    }
  }

  void same(String what, Object got, Object due) {
    checks++;
    if (!due.equals(got)) {
      wrong++;
      System.out.println(name + ": " + what + " answered " + got + ", due is " + due + sentence);
    }
  }

  /** What a call answers, or the name of the exception that it throws. */
  static String answerOf(Supplier<Object> call) {
    try {
      return String.valueOf(call.get());
    } catch (RuntimeException e) {
      return "throws." + e.getClass().getSimpleName();
    }
  }

  /** A call is refused with just this exception, and the bench is as one on which it was not made. */
  void refused(String what, Class<? extends RuntimeException> due, Consumer<Probehall> scene,
      Consumer<Probehall> call) {
    Probehall called = new Probehall();
    Probehall spared = new Probehall();
    scene.accept(called);
    scene.accept(spared);
    String answer = answerOf(() -> {
      call.accept(called);
      return "nothing";
    });
    same(what, answer, "throws." + due.getSimpleName());
    same("the bench behind " + what, Look.at(called), Look.at(spared));
  }

  void noWire(String what, Consumer<Probehall> call) {
    refused(what, IndexOutOfBoundsException.class, Look::busyScene, call);
  }

  void badNumber(String what, Consumer<Probehall> call) {
    refused(what, IllegalArgumentException.class, Look::busyScene, call);
  }

  void finish() {
    System.out.println(name + ": " + checks + " checks, " + wrong + " wrong");
    if (wrong > 0 || checks == 0) {
      System.exit(1);
    }
  }
}
