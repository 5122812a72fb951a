import java.util.NoSuchElementException;
import java.util.function.Consumer;

/** The bounds of promises 11 to 20: captures, runs, blocks and triggers. */
public final class CaptureBoundsTest {
  private static final Check CHECK = new Check("CaptureBoundsTest");
  private static final String NONE = "throws.NoSuchElementException";

  private CaptureBoundsTest() {
  }

  public static void main(String[] args) {
    captureNumbers();
    captureLastTick();
    captureChanges();
    samples();
    runs();
    shortest();
    blocksOfDegrees();
    blocksWithTheSampleAhead();
    blocksRefused();
    stepNumbers();
    stepWires();
    mostSteps();
    triggerUpToTheLastSample();
    triggerNumbers();
    triggerAnew();
    triggerRefused();
    CHECK.finish();
  }

  /** Not there, and the bench stays as it is. */
  private static void none(String what, Consumer<Probehall> scene, Consumer<Probehall> call) {
    CHECK.refused(what, NoSuchElementException.class, scene, call);
  }

  private static Consumer<Probehall> drawn(String levels) {
    return x -> {
      Look.draw(x, 0, levels);
      x.capture(0, 0, 1, levels.length());
    };
  }

  private static void captureNumbers() {
    CHECK.says("A capture has the levels of all wires at a tick, and so many more, each some ticks, "
        + "1 to 99, behind the one ahead, at most 400, none behind 9999.");
    Probehall x = new Probehall();
    x.idle(0, true);
    x.flip(1, 99);
    x.flip(2, 98);
    x.flip(3, 100);
    CHECK.same("steps of 1", x.capture(0, 98, 1, 3) + " " + x.sample(0, 0) + " " + x.sample(0, 1)
        + " " + x.sample(0, 2), "2 5 7 15");
    CHECK.same("steps of 99", x.capture(1, 0, 99, 2) + " " + x.sample(1, 0) + " " + x.sample(1, 1),
        "1 1 7");
    CHECK.same("steps of 98", x.capture(1, 0, 98, 2) + " " + x.sample(1, 1), "1 5");
    CHECK.same("1 sample", x.capture(0, 99, 99, 1) + " " + x.samples(0) + " " + x.sample(0, 0),
        "0 1 7");
    CHECK.same("2 samples", x.capture(0, 99, 1, 2) + " " + x.samples(0), "1 2");
    CHECK.same("399 samples", x.capture(0, 0, 25, 399) + " " + x.samples(0), "1 399");
    CHECK.same("400 samples", x.capture(0, 0, 25, 400) + " " + x.samples(0), "1 400");
    CHECK.same("the first and the last of them", x.sample(0, 0) + " " + x.sample(0, 399), "1 15");
    int[][] wrong = {{0, 0, 2}, {0, 100, 2}, {0, -1, 2}, {0, 1, 0}, {0, 1, 401}, {0, 1, -1},
        {-1, 1, 2}, {10000, 1, 1}, {0, 100, 1}, {0, 0, 1}, {0, 0, 401}};
    for (int[] numbers : wrong) {
      for (int capture = 0; capture < 2; capture++) {
        int taken = capture;
        CHECK.refused("a capture from " + numbers[0] + " by " + numbers[1] + " of " + numbers[2],
            IllegalArgumentException.class, Full::captures,
            y -> y.capture(taken, numbers[0], numbers[1], numbers[2]));
      }
    }
  }

  private static void captureLastTick() {
    CHECK.says("if a number is out of range, or the last sample would be behind 9999");
    int[][] last = {{9999, 1, 1}, {9999, 99, 1}, {9998, 1, 2}, {9900, 99, 2}, {9600, 1, 400},
        {0, 99, 102}, {24, 25, 400}, {9800, 1, 200}};
    for (int[] numbers : last) {
      Probehall x = new Probehall();
      x.flip(3, 9999);
      int many = numbers[2];
      CHECK.same("a last sample at 9999, from " + numbers[0],
          x.capture(1, numbers[0], numbers[1], many), many == 1 ? 0 : 1);
      CHECK.same("its level", x.sample(1, many - 1), 8);
      if (many > 1) {
        CHECK.same("the level ahead of it", x.sample(1, many - 2), 0);
      }
      CHECK.badNumber("a last sample at 10000, from " + (numbers[0] + 1),
          y -> y.capture(1, numbers[0] + 1, numbers[1], many));
      if (many < 400) {
        CHECK.badNumber("one sample more, from " + numbers[0],
            y -> y.capture(1, numbers[0], numbers[1], many + 1));
      }
    }
    CHECK.badNumber("by steps of 26", y -> y.capture(1, 0, 26, 400));
    CHECK.badNumber("by steps of 99", y -> y.capture(0, 0, 99, 400));
  }

  private static void captureChanges() {
    CHECK.says("Returns how many samples have other levels than the one ahead.");
    Probehall x = new Probehall();
    CHECK.same("no change", x.capture(0, 0, 1, 400), 0);
    x.flip(0, 0);
    CHECK.same("a flip at the first sample is none", x.capture(0, 0, 1, 400), 0);
    x.flip(0, 1);
    CHECK.same("a change at the second sample", x.capture(0, 0, 1, 400), 1);
    x.flip(1, 399);
    CHECK.same("a change at the last sample", x.capture(0, 0, 1, 400), 2);
    x.flip(2, 400);
    CHECK.same("a flip behind the last sample is none", x.capture(0, 0, 1, 400), 2);
    x.flip(3, 10);
    x.flip(3, 11);
    CHECK.same("two flips between samples are none", x.capture(0, 0, 3, 134), 2);
    Probehall all = new Probehall();
    Full.comb(all, 0, 2, 30);
    Full.comb(all, 3, 602, 10);
    CHECK.same("each sample changes", all.capture(1, 0, 2, 400), 399);
    CHECK.same("by two wires", all.runs(1, 0) + " " + all.runs(1, 3), "301 100");
  }

  private static void samples() {
    CHECK.says("Takes samples, in place of those there.");
    Probehall x = new Probehall();
    x.capture(0, 0, 1, 400);
    x.flip(0, 0);
    x.capture(0, 0, 1, 1);
    CHECK.same("one sample in place of 400", x.samples(0) + " " + x.sample(0, 0), "1 1");
    CHECK.same("another capture has none", x.samples(1), 0);
    none("the sample 1 of one", y -> y.capture(0, 0, 1, 1), y -> y.sample(0, 1));
    none("a sample of before", y -> {
      y.capture(0, 0, 1, 400);
      y.capture(0, 0, 1, 7);
    }, y -> y.sample(0, 7));
    for (int wrong : new int[] {-1, 400, Integer.MIN_VALUE, Integer.MAX_VALUE}) {
      none("the sample " + wrong + " of 400", Full::captures, y -> y.sample(1, wrong));
    }
    CHECK.says("Returns those that are high, as bits by wires.");
    for (int levels = 0; levels < 16; levels++) {
      Probehall y = new Probehall();
      for (int wire = 0; wire < 4; wire++) {
        y.idle(wire, (levels >> wire & 1) == 1);
      }
      y.capture(1, 9600, 1, 400);
      CHECK.same("all levels " + levels, y.sample(1, 0) + " " + y.sample(1, 399),
          levels + " " + levels);
    }
  }

  private static void runs() {
    CHECK.says("A run of a wire is a greatest row of samples of one level.");
    Probehall x = new Probehall();
    for (int wire = 0; wire < 4; wire++) {
      CHECK.same("runs of no samples", x.runs(0, wire) + x.runs(1, wire), 0);
    }
    none("the run 0 of no samples", Look::emptyScene, y -> y.run(1, 3, 0));
    x.capture(0, 0, 1, 1);
    CHECK.same("runs of one sample", x.runs(0, 3) + " " + x.run(0, 3, 0), "1 1");
    none("the run 1 of one sample", y -> y.capture(0, 0, 1, 1), y -> y.run(0, 3, 1));
    x.capture(0, 0, 1, 400);
    CHECK.same("a run of 400 samples", x.runs(0, 3) + " " + x.run(0, 3, 0), "1 400");
    Probehall many = new Probehall();
    Full.comb(many, 2, 2, 30);
    many.capture(0, 0, 2, 400);
    CHECK.same("301 runs", many.runs(0, 2), 301);
    CHECK.same("the first and the last but one", many.run(0, 2, 0) + " " + many.run(0, 2, 299),
        "1 1");
    CHECK.same("the last one", many.run(0, 2, 300), 100);
    Consumer<Probehall> scene = y -> {
      Full.comb(y, 2, 2, 30);
      y.capture(0, 0, 2, 400);
    };
    for (int wrong : new int[] {-1, 301, Integer.MIN_VALUE, Integer.MAX_VALUE}) {
      none("the run " + wrong + " of 301", scene, y -> y.run(0, 2, wrong));
    }
    Probehall ends = Look.drawn("1" + "0".repeat(398) + "1");
    CHECK.same("runs at both ends", ends.run(0, 0, 0) + " " + ends.run(0, 0, 1) + " "
        + ends.run(0, 0, 2), "1 398 1");
  }

  private static void shortest() {
    CHECK.says("Returns the shortest run of a wire but the first and the last one.");
    String[] innerless = {"0", "1", "01", "10", "0".repeat(400), "0".repeat(200) + "1".repeat(200)};
    for (String levels : innerless) {
      none("the shortest of " + levels, drawn(levels), y -> y.shortest(0, 0));
      none("the rate of " + levels, drawn(levels), y -> y.rate(0, 0));
    }
    none("the shortest of no samples", Look::emptyScene, y -> y.shortest(1, 3));
    none("the rate of no samples", Look::emptyScene, y -> y.rate(1, 3));
    shortestIs("101", 1);
    shortestIs("0110", 2);
    shortestIs("1" + "0".repeat(398) + "1", 398);
    shortestIs("0" + "11111" + "0", 5);
    shortestIs("0" + "111" + "00" + "1", 2);
    shortestIs("0" + "11" + "000" + "1", 2);
    shortestIs("0" + "11" + "000" + "1111" + "0", 2);
    shortestIs("0" + "1111" + "000" + "11" + "0", 2);
    shortestIs("00" + "11" + "00" + "11" + "0", 2);
    shortestIs("0".repeat(200) + "1" + "0".repeat(199), 1);
  }

  private static void shortestIs(String levels, int due) {
    Probehall x = Look.drawn(levels);
    CHECK.same("the shortest of " + levels, x.shortest(0, 0), due);
    CHECK.same("the rate of " + levels, x.rate(0, 0), 10 * due);
  }

  private static void blocksOfDegrees() {
    CHECK.says("a block of the degree d is 2 to the power of d samples, the last one perhaps fewer");
    for (int many : new int[] {1, 2, 255, 256, 257, 399, 400}) {
      for (int degree = 0; degree <= 9; degree++) {
        int d = degree;
        int size = 1 << degree;
        int last = (many - 1) / size;
        Probehall x = new Probehall();
        x.idle(3, true);
        x.capture(0, 0, 1, many);
        CHECK.same("the blocks of the degree " + degree, x.block(0, 3, degree, 0) + ""
            + x.block(0, 3, degree, last) + x.block(0, 0, degree, last), "110");
        none("the block behind " + many + " of the degree " + degree,
            y -> y.capture(0, 0, 1, many), y -> y.block(0, 3, d, last + 1));
        if (many > 1) {
          x.flip(3, many - 1);
          x.capture(0, 0, 1, many);
          CHECK.same("the last sample is in the last block", x.block(0, 3, degree, last), 'x');
        }
      }
    }
  }

  private static void blocksWithTheSampleAhead() {
    CHECK.says("it is '0' or '1' if all its samples and the one ahead of it, if there is one, are "
        + "so, otherwise 'x'");
    String[] pulses = {"0001", "1110", "0010", "1101"};
    String[] due = {"000x 0x x", "111x 1x x", "00xx 0x x", "11xx 1x x"};
    for (int i = 0; i < pulses.length; i++) {
      Probehall x = Look.drawn(pulses[i]);
      StringBuilder blocks = new StringBuilder();
      for (int degree = 0; degree <= 2; degree++) {
        blocks.append(degree == 0 ? "" : " ");
        for (int block = 0; block < 4 >> degree; block++) {
          blocks.append(x.block(0, 0, degree, block));
        }
      }
      CHECK.same("the blocks of " + pulses[i], blocks.toString(), due[i]);
    }
    for (int degree = 1; degree <= 8; degree++) {
      int size = 1 << degree;
      Probehall x = new Probehall();
      x.flip(0, size);
      x.capture(0, 0, 1, Math.min(400, 3 * size));
      CHECK.same("a block with another one ahead, of the degree " + degree,
          x.block(0, 0, degree, 0) + "" + x.block(0, 0, degree, 1), "0x");
      x.flip(0, size);
      x.flip(0, size - 1);
      x.capture(0, 0, 1, Math.min(400, 3 * size));
      CHECK.same("a block with the same ahead, of the degree " + degree,
          x.block(0, 0, degree, 0) + "" + x.block(0, 0, degree, 1), "x1");
    }
    Probehall x = Look.drawn("0".repeat(398) + "10");
    CHECK.same("one pulse in the last block of each degree", x.block(0, 0, 0, 398) + ""
        + x.block(0, 0, 1, 199) + x.block(0, 0, 8, 1) + x.block(0, 0, 9, 0), "xxxx");
    CHECK.same("not in those ahead", x.block(0, 0, 0, 397) + "" + x.block(0, 0, 1, 198)
        + x.block(0, 0, 8, 0), "000");
  }

  private static void blocksRefused() {
    CHECK.says("if there is no such degree");
    CHECK.says("if there is no such block");
    for (int degree = 0; degree <= 9; degree++) {
      int d = degree;
      int[] wrong = {-1, (399 >> degree) + 1, 1 << 30, 1 << 31 - degree, 1 << 22, 1 << 23,
          Integer.MAX_VALUE, Integer.MIN_VALUE};
      for (int block : wrong) {
        none("the block " + block + " of the degree " + degree, Full::captures,
            y -> y.block(1, 0, d, block));
      }
      none("a block of no samples", Look::emptyScene, y -> y.block(0, 0, d, 0));
    }
    for (int degree : new int[] {-1, 10, 31, 32, 33, Integer.MIN_VALUE, Integer.MAX_VALUE}) {
      CHECK.badNumber("the degree " + degree, y -> y.block(0, 0, degree, 0));
      CHECK.refused("the degree " + degree + " of no samples", IllegalArgumentException.class,
          Look::emptyScene, y -> y.block(0, 0, degree, 0));
    }
  }

  private static void stepNumbers() {
    CHECK.says("the number, 1 to 400; 0 to 15 for 'p'");
    for (char kind : "rfhlt".toCharArray()) {
      Probehall x = new Probehall();
      CHECK.same(kind + " of 1", x.step(kind, 0, 1), 1);
      CHECK.same(kind + " of 400", x.step(kind, 0, 400), 2);
      CHECK.badNumber(kind + " of 0", y -> y.step(kind, 0, 0));
      CHECK.badNumber(kind + " of 401", y -> y.step(kind, 0, 401));
    }
    Probehall x = new Probehall();
    CHECK.same("p of 0", x.step('p', 0, 0), 1);
    CHECK.same("p of 15", x.step('p', 0, 15), 2);
    CHECK.badNumber("p of -1", y -> y.step('p', 0, -1));
    CHECK.badNumber("p of 16", y -> y.step('p', 0, 16));
    CHECK.badNumber("p of 400", y -> y.step('p', 0, 400));
    CHECK.says("if there is no such kind, or the number is out of range");
    for (char kind : new char[] {'q', 's', 'e', 'g', 'i', 'k', 'm', 'o', 'u', 'R', 'P', 0, 0xffff}) {
      CHECK.badNumber("the kind " + (int) kind, y -> y.step(kind, 0, 1));
    }
  }

  private static void stepWires() {
    CHECK.says("the wire has no meaning by 'p' and 't', and is not looked at");
    CHECK.says("if there is no such wire, but by 'p' and 't'");
    for (int wire : new int[] {-1, 4, Integer.MIN_VALUE, Integer.MAX_VALUE}) {
      for (char kind : "rfhlx".toCharArray()) {
        CHECK.noWire(kind + " of the wire " + wire, y -> y.step(kind, wire, 1));
        CHECK.noWire(kind + " of the wire " + wire + " and 0", y -> y.step(kind, wire, 0));
        CHECK.refused(kind + " of the wire " + wire + " as a seventh",
            IndexOutOfBoundsException.class, Full::steps, y -> y.step(kind, wire, 1));
      }
      Probehall x = Look.drawn("0111");
      CHECK.same("t of the wire " + wire, x.step('t', wire, 2), 1);
      CHECK.same("p of the wire " + wire, x.step('p', wire, 1), 2);
      CHECK.same("their trigger", x.trigger(0), 2);
      CHECK.badNumber("t of the wire " + wire + " and 0", y -> y.step('t', wire, 0));
      CHECK.badNumber("p of the wire " + wire + " and 16", y -> y.step('p', wire, 16));
    }
    for (int wire = 0; wire < 4; wire++) {
      Probehall x = new Probehall();
      x.flip(wire, 5);
      x.capture(0, 0, 1, 9);
      CHECK.same("r of the wire " + wire, x.step('r', wire, 1), 1);
      CHECK.same("h of the wire " + wire, x.step('h', wire, 2), 2);
      CHECK.same("their trigger", x.trigger(0), 7);
    }
  }

  private static void mostSteps() {
    CHECK.says("A trigger has at most 6 steps");
    Probehall x = new Probehall();
    CHECK.same("no steps to take away", x.reset(), 0);
    for (int i = 1; i <= 6; i++) {
      CHECK.same("the step " + i, x.step("rfhlpt".charAt(i - 1), 0, 1), i);
    }
    CHECK.says("if it has 6");
    for (char kind : "rfhlpt".toCharArray()) {
      CHECK.refused("a seventh step " + kind, IllegalStateException.class, Full::steps,
          y -> y.step(kind, 0, 1));
    }
    CHECK.says("Returns how many there were.");
    CHECK.same("six to take away", x.reset(), 6);
    CHECK.same("none are left", x.reset(), 0);
    for (int i = 1; i <= 6; i++) {
      CHECK.same("the step " + i + " again", x.step('t', 0, 2), i);
    }
    x.capture(1, 0, 1, 12);
    CHECK.same("they are the new ones", x.trigger(1), 11);
  }

  private static String trigger(Consumer<Probehall> scene, String steps) {
    Probehall x = new Probehall();
    scene.accept(x);
    for (String step : steps.split(" ")) {
      x.step(step.charAt(0), step.charAt(1) - '0', Integer.parseInt(step.substring(2)));
    }
    return Check.answerOf(() -> x.trigger(0));
  }

  private static void met(String levels, String steps, String due) {
    CHECK.same(steps + " of " + levels, trigger(drawn(levels), steps), due);
  }

  private static void triggerUpToTheLastSample() {
    CHECK.says("A step looks at samples from that behind the one at which the step ahead was met on, "
        + "the first one from the sample 0 on");
    met("1", "h01", "0");
    met("0", "l01", "0");
    met("1", "p01", "0");
    met("1", "t01", "0");
    met("1", "t02", NONE);
    met("1", "r01", NONE);
    met("0", "f01", NONE);
    met("1", "h01 h01", NONE);
    met("11", "h01 h01", "1");
    met("01", "r01", "1");
    met("10", "f01", "1");
    met("000000", "t01 t01 t01 t01 t01 t01", "5");
    met("00000", "t01 t01 t01 t01 t01 t01", NONE);
    met("0000001", "t01 t01 t01 t01 t01 r01", "6");
    met("000000", "p00 l01 p00 l01 p00 l01", "5");
    met("00000", "p00 l01 p00 l01 p00 l01", NONE);
    met("0001", "l03 r01", "3");
    met("0001", "l03 h01", "3");
    met("0001", "l03 t01", "3");
    met("0001", "l03 p01", "3");
    met("0001", "r01 h01", NONE);
    met("0001", "r01 p01", NONE);
    met("0001", "r01 t01", NONE);
    met("0010", "r01 f01", "3");
    met("0010", "r01 l01", "3");
    met("0101", "l01 r01 f01 r01", "3");
    met("0101", "t02 r01", "3");
    met("0101", "t01 r01", "1");
  }

  private static void triggerNumbers() {
    CHECK.says("'h' it is high for so many samples in a row");
    CHECK.says("'t' so many samples go by, the last one of these being that at which it is met");
    String low = "0".repeat(399);
    String high = "1".repeat(399);
    met(high + "1", "h0400", "399");
    met(high + "1", "h0399", "398");
    met(high, "h0400", NONE);
    met(high + "0", "h0400", NONE);
    met("0" + high, "h0400", NONE);
    met("0" + high, "h0399", "399");
    met(low + "0", "l0400", "399");
    met(low + "1", "l0400", NONE);
    met("1" + low, "l0400", NONE);
    met("1" + low, "l0399", "399");
    met(low + "0", "t0400", "399");
    met(low + "0", "t0399 t01", "399");
    met(low + "0", "t0400 t01", NONE);
    met(low, "t0400", NONE);
    Consumer<Probehall> comb = x -> {
      Full.comb(x, 0, 2, 30);
      x.capture(0, 0, 2, 400);
    };
    CHECK.says("for the so manieth time");
    CHECK.same("the rise 150 of 150", trigger(comb, "r0150"), "299");
    CHECK.same("the rise 151 of 150", trigger(comb, "r0151"), NONE);
    CHECK.same("the rise 400 of 150", trigger(comb, "r0400"), NONE);
    CHECK.same("the fall 150 of 150", trigger(comb, "f0150"), "300");
    CHECK.same("the fall 151 of 150", trigger(comb, "f0151"), NONE);
    CHECK.same("the fall 400 of 150", trigger(comb, "f0400"), NONE);
    CHECK.says("'p' the levels of all wires, as bits, are the number");
    for (int levels = 0; levels < 16; levels++) {
      int wanted = levels;
      Consumer<Probehall> scene = x -> {
        for (int wire = 0; wire < 4; wire++) {
          x.idle(wire, (wanted >> wire & 1) == 0);
          x.flip(wire, 3);
        }
        x.capture(0, 0, 1, 6);
      };
      CHECK.same("the levels " + levels, trigger(scene, "p0" + levels), "3");
      CHECK.same("the levels " + (15 - levels), trigger(scene, "p0" + (15 - levels)), "0");
      CHECK.same("other levels", trigger(scene, "p0" + (levels ^ 1)), NONE);
    }
  }

  private static void triggerAnew() {
    CHECK.says("it rises or falls at a sample other than the one ahead of it");
    met("10", "r01", NONE);
    met("01", "f01", NONE);
    met("101", "r01", "2");
    met("010", "f01", "2");
    met("0011", "t02 r01", "2");
    met("0011", "t03 r01", NONE);
    met("1100", "h02 f01", "2");
    met("1100", "t03 f01", NONE);
    CHECK.says("a row begins anew for each step");
    met("1111", "h02 h02", "3");
    met("1111", "h02 h03", NONE);
    met("0000", "l02 l02", "3");
    met("0000", "t01 l04", NONE);
    met("0000", "t01 l03", "3");
    met("1101111", "h03 h01", "6");
    met("01010101", "r02 r02", "7");
    met("01010101", "r02 r03", NONE);
    met("1101", "h03", NONE);
    met("11011", "h03", NONE);
    CHECK.says("The trigger is met with its last step.");
    met("010101", "r01 t03", "4");
  }

  private static void triggerRefused() {
    CHECK.says("if it has no steps");
    CHECK.refused("no steps, no samples", UnsupportedOperationException.class, Look::emptyScene,
        y -> y.trigger(1));
    CHECK.refused("no steps, 400 samples", UnsupportedOperationException.class, Full::captures,
        y -> y.trigger(1));
    CHECK.refused("no steps behind a reset", UnsupportedOperationException.class, y -> {
      Look.busyScene(y);
      y.reset();
    }, y -> y.trigger(0));
    CHECK.says("if it is not met");
    none("no samples", Full::steps, y -> y.trigger(0));
    none("five samples and six steps", y -> {
      Full.steps(y);
      y.capture(0, 0, 1, 5);
    }, y -> y.trigger(0));
    none("no samples of this capture", y -> {
      Full.steps(y);
      y.capture(0, 0, 1, 6);
    }, y -> y.trigger(1));
    Probehall x = new Probehall();
    Full.steps(x);
    x.capture(0, 0, 1, 6);
    CHECK.same("six samples and six steps", x.trigger(0), 5);
  }
}
