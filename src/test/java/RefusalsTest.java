import java.lang.reflect.InvocationTargetException;
import java.lang.reflect.Method;
import java.util.ArrayList;
import java.util.List;
import java.util.NoSuchElementException;
import java.util.function.Consumer;

/**
 * Each call with each set of wrong arguments, by themselves and where the bench refuses the call
 * too: the exception that is listed first is thrown, and nothing is changed.
 */
public final class RefusalsTest {
  private static final Check CHECK = new Check("RefusalsTest");

  /** The exceptions in the order in which the document lists them for each call. */
  private static final List<Class<? extends RuntimeException>> ORDER = List.of(
      IndexOutOfBoundsException.class, IllegalArgumentException.class, IllegalStateException.class,
      UnsupportedOperationException.class, NoSuchElementException.class);
  private static final int INDEX = 0;
  private static final int ARGUMENT = 1;
  private static final int STATE = 2;
  private static final int USE = 3;
  private static final int ELEMENT = 4;
  private static final int FINE = 5;

  /** How many wrong values each argument has: those next to its range, and the farthest ones. */
  private static final int VARIANTS = 4;

  /** An argument: one that is fine, its range, and what is thrown beyond it. */
  private record Arg(Object fine, int rank, List<Object> wrong) {
  }

  private int calls;

  private RefusalsTest() {
  }

  public static void main(String[] args) {
    CHECK.says("If several exceptions apply, the one that is listed first is thrown.");
    CHECK.says("A method that throws an exception changes nothing.");
    RefusalsTest test = new RefusalsTest();
    test.wires();
    test.serial();
    test.twoWires();
    test.fourWires();
    test.captures();
    test.runs();
    test.triggers();
    test.decoders();
    test.notes();
    test.besides();
    test.sums();
    CHECK.same("many sets of wrong arguments", test.calls > 4000, true);
    CHECK.finish();
  }

  private static Arg range(int fine, int least, int most, int rank) {
    return new Arg(fine, rank, List.of(least - 1, most + 1, Integer.MIN_VALUE, Integer.MAX_VALUE));
  }

  private static Arg wire(int fine) {
    return range(fine, 0, 3, INDEX);
  }

  private static Arg capture(int fine) {
    return range(fine, 0, 1, INDEX);
  }

  private static Arg number(int fine, int least, int most) {
    return range(fine, least, most, ARGUMENT);
  }

  private static Arg element(int fine, int most) {
    return range(fine, 0, most, ELEMENT);
  }

  /** An argument of which nothing is wrong. */
  private static Arg free(Object fine) {
    return new Arg(fine, FINE, List.of());
  }

  private static Arg parity() {
    return new Arg('e', ARGUMENT, List.of('N', 'f', (char) 0, (char) 0xffff));
  }

  private void wires() {
    row("idle", Look::busyScene, FINE, wire(1), free(true));
    row("flip", Look::busyScene, FINE, wire(0), number(5, 0, 9999));
    row("flip", x -> Full.flips(x, 0, 300), STATE, wire(0), number(9998, 0, 9999));
    row("level", Look::busyScene, FINE, wire(3), number(5, 0, 9999));
    row("glitch", Look::busyScene, FINE, wire(0), number(5, 0, 9999), number(9, 1, 99));
    row("glitch", Look::busyScene, ARGUMENT, wire(0), number(9999, 0, 9999), number(1, 1, 99));
    row("glitch", x -> Full.flips(x, 0, 299), STATE, wire(0), number(9000, 0, 9999),
        number(99, 1, 99));
    row("glitch", x -> Full.flips(x, 0, 300), ARGUMENT, wire(0), number(9901, 0, 9999),
        number(99, 1, 99));
    row("drift", Look::busyScene, FINE, number(9, -50, 50));
  }

  private void serial() {
    Arg value = number(75, 0, 255);
    Arg bit = number(6, 2, 50);
    row("serial", Look::busyScene, FINE, wire(3), value, number(9, 0, 9999), bit, parity());
    row("serial", Look::busyScene, STATE, wire(3), value, number(9990, 0, 9999), bit, parity());
    row("serial", x -> Full.flips(x, 3, 300), STATE, wire(3), value, number(5000, 0, 9999), bit,
        parity());
  }

  private void twoWires() {
    twoWires(Look::busyScene, FINE, 2, 3, 400);
    twoWires(Look::busyScene, STATE, 2, 3, 9999);
    twoWires(x -> Full.flips(x, 2, 300), STATE, 2, 3, 5000);
    twoWires(x -> Full.flips(x, 3, 299), STATE, 2, 3, 5000);
    twoWires(Look::busyScene, ARGUMENT, 2, 2, 400);
    twoWires(x -> Full.flips(x, 2, 300), ARGUMENT, 2, 2, 9999);
  }

  private void twoWires(Consumer<Probehall> scene, int rank, int clock, int data, int at) {
    row("twoWires", scene, rank, wire(clock), wire(data), number(5, 0, 127), free(false),
        number(3, 0, 15), number(129, 0, 255), number(at, 0, 9999), number(2, 1, 50));
  }

  private void fourWires() {
    fourWires(Look::busyScene, FINE, new int[] {3, 0, 2}, 500);
    fourWires(Look::busyScene, STATE, new int[] {3, 0, 2}, 9999);
    fourWires(x -> Full.flips(x, 3, 300), STATE, new int[] {3, 0, 2}, 5000);
    fourWires(x -> Full.flips(x, 0, 300), STATE, new int[] {3, 0, 2}, 5000);
    fourWires(x -> Full.flips(x, 2, 299), STATE, new int[] {3, 0, 2}, 5000);
    fourWires(Look::busyScene, ARGUMENT, new int[] {3, 3, 2}, 500);
    fourWires(Look::busyScene, ARGUMENT, new int[] {3, 0, 3}, 500);
    fourWires(Look::busyScene, ARGUMENT, new int[] {3, 0, 0}, 500);
    fourWires(x -> Full.flips(x, 1, 300), ARGUMENT, new int[] {1, 1, 1}, 9999);
  }

  private void fourWires(Consumer<Probehall> scene, int rank, int[] lines, int at) {
    row("fourWires", scene, rank, wire(lines[0]), wire(lines[1]), wire(lines[2]),
        number(178, 0, 255), number(at, 0, 9999), number(3, 1, 50), number(1, 0, 3));
  }

  private void captures() {
    row("capture", Look::busyScene, FINE, capture(0), number(5, 0, 9999), number(2, 1, 99),
        number(50, 1, 400));
    row("capture", Full::captures, ARGUMENT, capture(1), number(9999, 0, 9999), number(1, 1, 99),
        number(2, 1, 400));
    row("samples", Look::busyScene, FINE, capture(0));
    row("sample", Look::busyScene, FINE, capture(0), element(7, 149));
    row("sample", Full::captures, FINE, capture(1), element(7, 399));
    row("sample", Look::emptyScene, ELEMENT, capture(1), element(0, 0));
  }

  private void runs() {
    row("runs", Look::busyScene, FINE, capture(0), wire(1));
    row("run", Full::captures, FINE, capture(0), wire(0), element(1, 2));
    row("run", Look::emptyScene, ELEMENT, capture(0), wire(0), element(0, 0));
    row("shortest", Full::captures, FINE, capture(0), wire(0));
    row("shortest", Full::captures, ELEMENT, capture(0), wire(1));
    row("shortest", Look::emptyScene, ELEMENT, capture(1), wire(3));
    row("block", Full::captures, FINE, capture(0), wire(0), number(3, 0, 9), element(5, 49));
    row("block", Full::captures, FINE, capture(1), wire(3), number(0, 0, 9), element(399, 399));
    row("block", Look::emptyScene, ELEMENT, capture(1), wire(3), number(0, 0, 9), element(0, 0));
  }

  private void triggers() {
    Arg kinds = new Arg('h', ARGUMENT, List.of('H', 'q', (char) 0, (char) 0xffff));
    row("step", Look::busyScene, FINE, kinds, wire(2), number(5, 1, 400));
    row("step", Full::steps, STATE, kinds, wire(2), number(5, 1, 400));
    for (char kind : "rfl".toCharArray()) {
      row("step", Look::busyScene, FINE, free(kind), wire(2), number(5, 1, 400));
      row("step", Full::steps, STATE, free(kind), wire(2), number(5, 1, 400));
    }
    for (int line : new int[] {0, -1, 4, Integer.MIN_VALUE, Integer.MAX_VALUE}) {
      row("step", Look::busyScene, FINE, free('t'), free(line), number(5, 1, 400));
      row("step", Full::steps, STATE, free('t'), free(line), number(400, 1, 400));
      row("step", Look::busyScene, FINE, free('p'), free(line), number(5, 0, 15));
      row("step", Full::steps, STATE, free('p'), free(line), number(15, 0, 15));
    }
    row("trigger", Look::busyScene, FINE, capture(0));
    row("trigger", Full::captures, USE, capture(0));
    row("trigger", Look::emptyScene, USE, capture(1));
    row("trigger", Full::steps, ELEMENT, capture(1));
  }

  private void decoders() {
    for (int i = 0; i < 2; i++) {
      Consumer<Probehall> scene = i == 0 ? Look::busyScene : RefusalsTest::fullNotes;
      row("decodeSerial", scene, FINE, capture(0), wire(0), number(30, 10, 999), parity());
      row("decodeTwo", scene, FINE, capture(0), wire(0), wire(1));
      row("decodeTwo", scene, ARGUMENT, capture(0), wire(3), wire(3));
      decodeFour(scene, FINE, 1, 3, 2);
      decodeFour(scene, ARGUMENT, 1, 1, 2);
      decodeFour(scene, ARGUMENT, 1, 2, 1);
      decodeFour(scene, ARGUMENT, 2, 1, 1);
      decodeFour(scene, ARGUMENT, 0, 0, 0);
    }
  }

  private void decodeFour(Consumer<Probehall> scene, int rank, int clock, int data, int select) {
    row("decodeFour", scene, rank, capture(1), wire(clock), wire(data), wire(select),
        number(2, 0, 3));
  }

  private static void fullNotes(Probehall x) {
    Full.notes(x, 200);
  }

  private void notes() {
    for (String call : List.of("kind", "begin", "end", "value", "fault")) {
      row(call, Full::captures, INDEX, free(0));
      row(call, Look::busyScene, FINE, range(9, 0, 9, INDEX));
      row(call, RefusalsTest::fullNotes, FINE, range(199, 0, 199, INDEX));
    }
    row("rate", Full::captures, FINE, capture(0), wire(0));
    row("rate", Full::captures, ELEMENT, capture(0), wire(1));
    row("rate", Look::emptyScene, ELEMENT, capture(1), wire(3));
    row("register", Look::busyScene, FINE, number(5, 0, 127), number(3, 0, 15));
    row("follows", Look::busyScene, FINE, number(10, 0, 255), number(3, 0, 255));
  }

  private void besides() {
    row("alike", Full::captures, FINE, number(9, -399, 399));
    row("alike", Look::emptyScene, FINE, number(9, -399, 399));
    row("differs", Full::captures, FINE, number(0, -399, 399));
    row("differs", Look::emptyScene, ELEMENT, number(9, -399, 399));
    row("best", Full::captures, FINE, number(9, 0, 99));
    row("best", Look::emptyScene, USE, number(9, 0, 99));
    row("best", x -> x.capture(0, 0, 1, 9), USE, number(0, 0, 99));
    row("best", x -> x.capture(1, 0, 1, 9), USE, number(99, 0, 99));
  }

  private void sums() {
    for (String call : List.of("highShare", "meanRun")) {
      row(call, Full::captures, FINE, capture(1), wire(0));
      row(call, Look::emptyScene, ELEMENT, capture(1), wire(0));
    }
  }

  /** Looks at a call with each set of wrong arguments; a rank is what the scene itself makes due. */
  private void row(String name, Consumer<Probehall> scene, int rank, Arg... args) {
    Probehall spared = new Probehall();
    scene.accept(spared);
    String before = Look.at(spared);
    for (int set = 0; set < 1 << args.length; set++) {
      for (int variant = 0; variant < (set == 0 ? 1 : VARIANTS); variant++) {
        look(name, scene, rank, args, set, variant, before);
      }
    }
  }

  private void look(String name, Consumer<Probehall> scene, int sceneRank, Arg[] args, int set,
      int variant, String before) {
    int rank = sceneRank;
    List<Object> values = new ArrayList<>();
    for (int i = 0; i < args.length; i++) {
      boolean isWrong = (set >> i & 1) == 1;
      if (isWrong && args[i].rank == FINE) {
        return;
      }
      values.add(isWrong ? args[i].wrong.get((variant + i) % VARIANTS) : args[i].fine);
      rank = isWrong ? Math.min(rank, args[i].rank) : rank;
    }
    calls++;
    Probehall x = new Probehall();
    scene.accept(x);
    String answer = answerOf(x, name, values);
    String what = name + values;
    if (rank == FINE) {
      CHECK.same(what + " is not refused", answer.startsWith("throws."), false);
      return;
    }
    CHECK.same(what, answer, "throws." + ORDER.get(rank).getSimpleName());
    CHECK.same("the bench behind " + what, Look.at(x), before);
  }

  private static String answerOf(Probehall x, String name, List<Object> values) {
    for (Method method : Probehall.class.getMethods()) {
      if (method.getName().equals(name)) {
        try {
          return String.valueOf(method.invoke(x, values.toArray()));
        } catch (InvocationTargetException e) {
          return "throws." + e.getCause().getClass().getSimpleName();
        } catch (IllegalAccessException e) {
          return "no access";
        }
      }
    }
    return "no such call";
  }
}
